/-! THE METHODS, printed: their blocks; who calls whom by which number -/
def aLb_0 : List (Nat × List ab_I × ab_T) := [(0, [(.iconst 1, 1, 0, 0), (.newarray .int, 2, 0, 0), (.dup, 1, 0, 0), (.iconst 0, 1, 0, 0), (.bipush 17, 2, 0, 0), (.iastore, 1, 0, 0), (.astore_n 1, 1, 0, 0), (.iconst 0, 1, 0, 0), (.istore_n 2, 1, 0, 0)], (.nop, 0, (0, 0, 0), [1])),
  (11, [(.iload_n 2, 1, 0, 0), (.aload_n 0, 1, 0, 0), (.arraylength, 1, 0, 0)], (.if_icmp .ge 38, 3, (0, 0, 0), [3, 2]))]
def aLb_1 : List (Nat × List ab_I × ab_T) := [(17, [(.aload_n 1, 1, 0, 0), (.iconst 0, 1, 0, 0), (.aload_n 1, 1, 0, 0), (.iconst 0, 1, 0, 0), (.iaload, 1, 0, 0), (.aload_n 0, 1, 0, 0), (.iload_n 2, 1, 0, 0), (.iaload, 1, 0, 0), (.ixor, 1, 0, 0), (.ldc 7, 2, 1103515245, 0), (.imul, 1, 0, 0), (.sipush 12345, 3, 0, 0), (.iadd, 1, 0, 0), (.iastore, 1, 0, 0), (.aload_n 1, 1, 0, 0), (.iconst 0, 1, 0, 0), (.dup2, 1, 0, 0), (.iaload, 1, 0, 0), (.aload_n 1, 1, 0, 0), (.iconst 0, 1, 0, 0), (.iaload, 1, 0, 0), (.bipush 15, 2, 0, 0), (.iushr, 1, 0, 0), (.ixor, 1, 0, 0), (.iastore, 1, 0, 0), (.iinc 2 1, 3, 0, 0)], (.goto (-38), 3, (0, 0, 0), [1]))]
def aLb_2 : List (Nat × List ab_I × ab_T) := [(52, [(.new 24, 3, 11, 0), (.dup, 1, 0, 0)], (.invokespecial 214, 3, (121, 1, 100), [4])),
  (59, [], (.nop, 0, (7, 0, 0), [5])),
  (59, [(.astore_n 2, 1, 0, 0), (.new 15, 3, 12, 0), (.dup, 1, 0, 0)], (.invokespecial 215, 3, (280, 1, 101), [6])),
  (67, [(.astore_n 3, 1, 0, 0), (.aload_n 2, 1, 0, 0), (.aload_n 3, 1, 0, 0), (.aload_n 1, 1, 0, 0)], (.invokestatic 216, 3, (293, 3, 200), [7])),
  (74, [(.aload_n 3, 1, 0, 0), (.aload_n 3, 1, 0, 0), (.getfield 59, 3, 12, 8), (.newarray .int, 2, 0, 0), (.iconst 0, 1, 0, 0)], (.invokevirtual 220, 3, (288, 3, 12), [8]))]
def aLb_3 : List (Nat × List ab_I × ab_T) := [(85, [], (.ifCond .ne 16, 3, (0, 0, 0), [14, 9])),
  (88, [(.aload_n 2, 1, 0, 0)], (.invokevirtual 224, 3, (162, 1, 11), [10])),
  (92, [], (.ifCond .ne 7, 3, (0, 0, 0), [12, 11])),
  (95, [(.iconst 1, 1, 0, 0)], (.goto 4, 3, (0, 0, 0), [13])),
  (99, [(.iconst 0, 1, 0, 0)], (.nop, 0, (0, 0, 0), [13])),
  (100, [], (.ireturn, 1, (1, 0, 0), [])),
  (101, [(.aload_n 2, 1, 0, 0), (.aload_n 3, 1, 0, 0)], (.invokestatic 227, 3, (295, 2, 200), [15])),
  (106, [], (.ifCond .eq 40, 3, (0, 0, 0), [25, 16])),
  (109, [(.aload_n 2, 1, 0, 0), (.aload_n 3, 1, 0, 0)], (.invokestatic 230, 3, (296, 2, 200), [17]))]
def aLb_4 : List (Nat × List ab_I × ab_T) := [(114, [], (.ifCond .eq 32, 3, (0, 0, 0), [25, 18])),
  (117, [(.aload_n 2, 1, 0, 0), (.aload_n 3, 1, 0, 0), (.aload_n 1, 1, 0, 0)], (.invokestatic 232, 3, (297, 3, 200), [19])),
  (123, [], (.ifCond .eq 23, 3, (0, 0, 0), [25, 20])),
  (126, [(.aload_n 2, 1, 0, 0), (.aload_n 3, 1, 0, 0), (.aload_n 1, 1, 0, 0)], (.invokestatic 236, 3, (298, 3, 200), [21])),
  (132, [], (.ifCond .eq 14, 3, (0, 0, 0), [25, 22])),
  (135, [(.aload_n 2, 1, 0, 0)], (.invokevirtual 224, 3, (162, 1, 11), [23])),
  (139, [], (.ifCond .ne 7, 3, (0, 0, 0), [25, 24]))]
def aLb_5 : List (Nat × List ab_I × ab_T) := [(142, [(.iconst 1, 1, 0, 0)], (.goto 4, 3, (0, 0, 0), [26])),
  (146, [(.iconst 0, 1, 0, 0)], (.nop, 0, (0, 0, 0), [26])),
  (147, [], (.ireturn, 1, (1, 0, 0), []))]
def am_L_law : ab_M := (4, [], aLb_0 ++ (aLb_1 ++ (aLb_2 ++ (aLb_3 ++ (aLb_4 ++ (aLb_5))))))
def am_X0_init : ab_M := (4, [], [
  (0, [(.aload_n 0, 1, 0, 0), (.invokespecial 1, 3, 0, 0), (.aload_n 0, 1, 0, 0), (.new 7, 3, 9, 0), (.dup, 1, 0, 0)], (.invokespecial 9, 3, (97, 1, 101), [1])),
  (12, [(.putfield 10, 3, 0, 3), (.aload_n 0, 1, 0, 0), (.new 7, 3, 9, 0), (.dup, 1, 0, 0)], (.invokespecial 9, 3, (97, 1, 101), [2])),
  (23, [(.putfield 16, 3, 0, 4), (.aload_n 0, 1, 0, 0), (.iconst 0, 1, 0, 0), (.putfield 19, 3, 0, 5), (.aload_n 0, 1, 0, 0), (.iconst 0, 1, 0, 0), (.putfield 23, 3, 0, 6), (.aload_n 0, 1, 0, 0), (.iconst 0, 1, 0, 0), (.putfield 26, 3, 0, 7), (.aload_n 0, 1, 0, 0), (.iconst 0, 1, 0, 0), (.putfield 30, 3, 0, 8), (.aload_n 0, 1, 0, 0), (.iconst 0, 1, 0, 0), (.putfield 33, 3, 0, 9), (.aload_n 0, 1, 0, 0), (.iconst 0, 1, 0, 0), (.putfield 36, 3, 0, 10), (.aload_n 0, 1, 0, 0), (.aload_n 1, 1, 0, 0), (.putfield 39, 3, 0, 0), (.aload_n 0, 1, 0, 0), (.aload_n 2, 1, 0, 0), (.putfield 43, 3, 0, 1), (.aload_n 0, 1, 0, 0), (.aload_n 3, 1, 0, 0), (.putfield 47, 3, 0, 2)], (.return_, 1, (0, 0, 0), []))])
def am_X0_enumerate : ab_M := (1, [], [
  (0, [(.aload_n 0, 1, 0, 0), (.aload_n 0, 1, 0, 0)], (.invokevirtual 51, 3, (3, 1, 0), [1])),
  (5, [(.putfield 30, 3, 0, 8), (.aload_n 0, 1, 0, 0), (.getfield 30, 3, 0, 8), (.sipush 3000, 3, 0, 0)], (.if_icmp .le 5, 3, (0, 0, 0), [3, 2])),
  (18, [(.iconst 0, 1, 0, 0)], (.ireturn, 1, (1, 0, 0), [])),
  (20, [(.aload_n 0, 1, 0, 0), (.iconst 0, 1, 0, 0), (.putfield 19, 3, 0, 5), (.aload_n 0, 1, 0, 0), (.iconst 0, 1, 0, 0), (.putfield 23, 3, 0, 6), (.aload_n 0, 1, 0, 0), (.iconst 0, 1, 0, 0), (.putfield 26, 3, 0, 7), (.aload_n 0, 1, 0, 0), (.getfield 47, 3, 0, 2)], (.invokevirtual 55, 3, (104, 1, 10), [4])),
  (42, [(.aload_n 0, 1, 0, 0), (.getfield 10, 3, 0, 3), (.aload_n 0, 1, 0, 0), (.getfield 39, 3, 0, 0), (.getfield 60, 3, 6, 6)], (.invokevirtual 65, 3, (98, 2, 9), [5])),
  (56, [(.aload_n 0, 1, 0, 0), (.iconst 0, 1, 0, 0)], (.invokevirtual 69, 3, (5, 2, 0), [6])),
  (61, [(.iconst 1, 1, 0, 0)], (.ireturn, 1, (1, 0, 0), []))])
def am_X0_someKeeps : ab_M := (2, [], [
  (0, [(.aload_n 0, 1, 0, 0), (.iload_n 1, 1, 0, 0), (.putfield 33, 3, 0, 9), (.aload_n 0, 1, 0, 0), (.iconst 0, 1, 0, 0), (.putfield 36, 3, 0, 10), (.aload_n 0, 1, 0, 0), (.getfield 10, 3, 0, 3), (.aload_n 0, 1, 0, 0), (.getfield 39, 3, 0, 0), (.getfield 60, 3, 6, 6)], (.invokevirtual 65, 3, (98, 2, 9), [1])),
  (24, [(.aload_n 0, 1, 0, 0), (.iconst 0, 1, 0, 0)], (.invokevirtual 69, 3, (5, 2, 0), [2])),
  (29, [(.aload_n 0, 1, 0, 0), (.getfield 36, 3, 0, 10)], (.ireturn, 1, (1, 0, 0), []))])
def am_X0_countTimetables : ab_M := (6, [], [
  (0, [(.iconst 1, 1, 0, 0), (.istore_n 1, 1, 0, 0), (.iconst 0, 1, 0, 0), (.istore_n 2, 1, 0, 0)], (.nop, 0, (0, 0, 0), [1])),
  (4, [(.iload_n 2, 1, 0, 0), (.aload_n 0, 1, 0, 0), (.getfield 39, 3, 0, 0), (.getfield 60, 3, 6, 6)], (.if_icmp .ge 77, 3, (0, 0, 0), [13, 2])),
  (15, [(.iconst 0, 1, 0, 0), (.istore_n 3, 1, 0, 0), (.iconst 0, 1, 0, 0), (.istore 4, 2, 0, 0)], (.nop, 0, (0, 0, 0), [3])),
  (20, [(.iload 4, 2, 0, 0), (.aload_n 0, 1, 0, 0), (.getfield 39, 3, 0, 0), (.getfield 72, 3, 6, 2)], (.if_icmp .ge 50, 3, (0, 0, 0), [12, 4])),
  (32, [(.iconst 0, 1, 0, 0), (.istore 5, 2, 0, 0)], (.nop, 0, (0, 0, 0), [5])),
  (35, [(.iload 5, 2, 0, 0), (.aload_n 0, 1, 0, 0), (.getfield 39, 3, 0, 0), (.getfield 75, 3, 6, 5)], (.if_icmp .ge 29, 3, (0, 0, 0), [11, 6])),
  (47, [(.iload_n 3, 1, 0, 0), (.aload_n 0, 1, 0, 0), (.iload_n 2, 1, 0, 0), (.iload 4, 2, 0, 0), (.iload 5, 2, 0, 0)], (.invokevirtual 78, 3, (4, 4, 0), [7])),
  (57, [], (.ifCond .eq 7, 3, (0, 0, 0), [9, 8])),
  (60, [(.iconst 1, 1, 0, 0)], (.goto 4, 3, (0, 0, 0), [10])),
  (64, [(.iconst 0, 1, 0, 0)], (.nop, 0, (0, 0, 0), [10])),
  (65, [(.iadd, 1, 0, 0), (.istore_n 3, 1, 0, 0), (.iinc 5 1, 3, 0, 0)], (.goto (-35), 3, (0, 0, 0), [5])),
  (73, [(.iinc 4 1, 3, 0, 0)], (.goto (-56), 3, (0, 0, 0), [3])),
  (79, [(.iload_n 1, 1, 0, 0), (.iload_n 3, 1, 0, 0), (.imul, 1, 0, 0), (.istore_n 1, 1, 0, 0), (.iinc 2 1, 3, 0, 0)], (.goto (-82), 3, (0, 0, 0), [1])),
  (89, [(.iload_n 1, 1, 0, 0)], (.ireturn, 1, (0, 0, 0), []))])
def am_X0_stands : ab_M := (4, [], [
  (0, [(.aload_n 0, 1, 0, 0), (.getfield 39, 3, 0, 0), (.iload_n 1, 1, 0, 0), (.iload_n 2, 1, 0, 0)], (.invokevirtual 82, 3, (64, 3, 6), [1])),
  (9, [], (.ifCond .eq 19, 3, (0, 0, 0), [5, 2])),
  (12, [(.aload_n 0, 1, 0, 0), (.getfield 39, 3, 0, 0), (.iload_n 1, 1, 0, 0), (.iload_n 3, 1, 0, 0)], (.invokevirtual 86, 3, (65, 3, 6), [3])),
  (21, [], (.ifCond .eq 7, 3, (0, 0, 0), [5, 4])),
  (24, [(.iconst 1, 1, 0, 0)], (.goto 4, 3, (0, 0, 0), [6])),
  (28, [(.iconst 0, 1, 0, 0)], (.nop, 0, (0, 0, 0), [6])),
  (29, [], (.ireturn, 1, (1, 0, 0), []))])
def am_X0_walk : ab_M := (4, [], [
  (0, [(.aload_n 0, 1, 0, 0), (.getfield 30, 3, 0, 8)], (.ifCond .ne 4, 3, (0, 0, 0), [2, 1])),
  (7, [], (.return_, 1, (0, 0, 0), [])),
  (8, [(.iload_n 1, 1, 0, 0), (.aload_n 0, 1, 0, 0), (.getfield 39, 3, 0, 0), (.getfield 60, 3, 6, 6)], (.if_icmp .lt 8, 3, (0, 0, 0), [5, 3])),
  (19, [(.aload_n 0, 1, 0, 0)], (.invokevirtual 89, 3, (7, 1, 0), [4])),
  (23, [], (.return_, 1, (0, 0, 0), [])),
  (24, [(.iconst 0, 1, 0, 0), (.istore_n 2, 1, 0, 0)], (.nop, 0, (0, 0, 0), [6])),
  (26, [(.iload_n 2, 1, 0, 0), (.aload_n 0, 1, 0, 0), (.getfield 39, 3, 0, 0), (.getfield 72, 3, 6, 2)], (.if_icmp .ge 73, 3, (0, 0, 0), [16, 7])),
  (37, [(.iconst 0, 1, 0, 0), (.istore_n 3, 1, 0, 0)], (.nop, 0, (0, 0, 0), [8])),
  (39, [(.iload_n 3, 1, 0, 0), (.aload_n 0, 1, 0, 0), (.getfield 39, 3, 0, 0), (.getfield 75, 3, 6, 5)], (.if_icmp .ge 54, 3, (0, 0, 0), [15, 9])),
  (50, [(.aload_n 0, 1, 0, 0), (.getfield 10, 3, 0, 3), (.getfield 92, 3, 9, 2), (.iload_n 1, 1, 0, 0), (.iload_n 2, 1, 0, 0), (.iastore, 1, 0, 0), (.aload_n 0, 1, 0, 0), (.getfield 10, 3, 0, 3), (.getfield 96, 3, 9, 3), (.iload_n 1, 1, 0, 0), (.iload_n 3, 1, 0, 0), (.iastore, 1, 0, 0), (.aload_n 0, 1, 0, 0), (.iload_n 1, 1, 0, 0), (.iload_n 2, 1, 0, 0), (.iload_n 3, 1, 0, 0)], (.invokevirtual 78, 3, (4, 4, 0), [10])),
  (77, [], (.ifCond .eq 18, 3, (0, 0, 0), [14, 11])),
  (80, [(.aload_n 0, 1, 0, 0), (.iload_n 1, 1, 0, 0)], (.invokevirtual 99, 3, (6, 2, 0), [12])),
  (85, [], (.ifCond .eq 10, 3, (0, 0, 0), [14, 13])),
  (88, [(.aload_n 0, 1, 0, 0), (.iload_n 1, 1, 0, 0), (.iconst 1, 1, 0, 0), (.iadd, 1, 0, 0)], (.invokevirtual 69, 3, (5, 2, 0), [14])),
  (95, [(.iinc 3 1, 3, 0, 0)], (.goto (-59), 3, (0, 0, 0), [8])),
  (101, [(.iinc 2 1, 3, 0, 0)], (.goto (-78), 3, (0, 0, 0), [6])),
  (107, [], (.return_, 1, (0, 0, 0), []))])
def am_X0_clashesWithNone : ab_M := (3, [], [
  (0, [(.iconst 0, 1, 0, 0), (.istore_n 2, 1, 0, 0)], (.nop, 0, (0, 0, 0), [1])),
  (2, [(.iload_n 2, 1, 0, 0), (.iload_n 1, 1, 0, 0)], (.if_icmp .ge 27, 3, (0, 0, 0), [6, 2])),
  (7, [(.aload_n 0, 1, 0, 0), (.getfield 43, 3, 0, 1), (.aload_n 0, 1, 0, 0), (.getfield 10, 3, 0, 3), (.iload_n 1, 1, 0, 0), (.iload_n 2, 1, 0, 0)], (.invokevirtual 103, 3, (14, 4, 2), [3])),
  (20, [], (.ifCond .le 5, 3, (0, 0, 0), [5, 4])),
  (23, [(.iconst 0, 1, 0, 0)], (.ireturn, 1, (1, 0, 0), [])),
  (25, [(.iinc 2 1, 3, 0, 0)], (.goto (-26), 3, (0, 0, 0), [1])),
  (31, [(.iconst 1, 1, 0, 0)], (.ireturn, 1, (1, 0, 0), []))])
def am_X0_look : ab_M := (4, [], [
  (0, [(.aload_n 0, 1, 0, 0), (.getfield 43, 3, 0, 1), (.aload_n 0, 1, 0, 0), (.getfield 10, 3, 0, 3)], (.invokevirtual 109, 3, (15, 2, 2), [1])),
  (11, [(.istore_n 1, 1, 0, 0), (.aload_n 0, 1, 0, 0), (.aload_n 0, 1, 0, 0), (.getfield 36, 3, 0, 10)], (.ifCond .ne 12, 3, (0, 0, 0), [3, 2])),
  (20, [(.iload_n 1, 1, 0, 0), (.aload_n 0, 1, 0, 0), (.getfield 33, 3, 0, 9), (.iand, 1, 0, 0)], (.ifCond .ne 7, 3, (0, 0, 0), [4, 3])),
  (29, [(.iconst 1, 1, 0, 0)], (.goto 4, 3, (0, 0, 0), [5])),
  (33, [(.iconst 0, 1, 0, 0)], (.nop, 0, (0, 0, 0), [5])),
  (34, [(.putfield 36, 3, 0, 10), (.iload_n 1, 1, 0, 0)], (.ifCond .eq 4, 3, (0, 0, 0), [7, 6])),
  (41, [], (.return_, 1, (0, 0, 0), [])),
  (42, [(.aload_n 0, 1, 0, 0), (.getfield 43, 3, 0, 1), (.aload_n 0, 1, 0, 0), (.getfield 10, 3, 0, 3)], (.invokevirtual 113, 3, (22, 2, 2), [8])),
  (53, [(.istore_n 2, 1, 0, 0), (.aload_n 0, 1, 0, 0), (.getfield 19, 3, 0, 5)], (.ifCond .ne 24, 3, (0, 0, 0), [11, 9])),
  (61, [(.aload_n 0, 1, 0, 0), (.iconst 1, 1, 0, 0), (.putfield 19, 3, 0, 5), (.aload_n 0, 1, 0, 0), (.getfield 16, 3, 0, 4), (.aload_n 0, 1, 0, 0), (.getfield 10, 3, 0, 3)], (.invokevirtual 116, 3, (99, 2, 9), [10])),
  (77, [(.aload_n 0, 1, 0, 0), (.iload_n 2, 1, 0, 0), (.putfield 26, 3, 0, 7)], (.nop, 0, (0, 0, 0), [11])),
  (82, [(.aload_n 0, 1, 0, 0), (.aload_n 0, 1, 0, 0), (.getfield 26, 3, 0, 7), (.iload_n 2, 1, 0, 0), (.invokestatic 120, 3, 2, 0), (.putfield 26, 3, 0, 7), (.iconst 0, 1, 0, 0), (.istore_n 3, 1, 0, 0)], (.nop, 0, (0, 0, 0), [12])),
  (96, [(.iload_n 3, 1, 0, 0), (.aload_n 0, 1, 0, 0), (.getfield 39, 3, 0, 0), (.getfield 60, 3, 6, 6)], (.if_icmp .ge 54, 3, (0, 0, 0), [19, 13])),
  (107, [(.aload_n 0, 1, 0, 0), (.aload_n 0, 1, 0, 0), (.getfield 23, 3, 0, 6)], (.ifCond .ne 32, 3, (0, 0, 0), [16, 14])),
  (115, [(.aload_n 0, 1, 0, 0), (.getfield 47, 3, 0, 2), (.iload_n 3, 1, 0, 0), (.aload_n 0, 1, 0, 0), (.getfield 10, 3, 0, 3), (.getfield 92, 3, 9, 2), (.iload_n 3, 1, 0, 0), (.iaload, 1, 0, 0), (.aload_n 0, 1, 0, 0), (.getfield 10, 3, 0, 3), (.getfield 96, 3, 9, 3), (.iload_n 3, 1, 0, 0), (.iaload, 1, 0, 0)], (.invokevirtual 126, 3, (106, 4, 10), [15])),
  (141, [], (.ifCond .ne 7, 3, (0, 0, 0), [17, 16])),
  (144, [(.iconst 1, 1, 0, 0)], (.goto 4, 3, (0, 0, 0), [18])),
  (148, [(.iconst 0, 1, 0, 0)], (.nop, 0, (0, 0, 0), [18])),
  (149, [(.putfield 23, 3, 0, 6), (.iinc 3 1, 3, 0, 0)], (.goto (-59), 3, (0, 0, 0), [12])),
  (158, [], (.return_, 1, (0, 0, 0), []))])
def am_X1_init : ab_M := (2, [], [
  (0, [(.aload_n 0, 1, 0, 0), (.invokespecial 3, 3, 0, 0), (.aload_n 0, 1, 0, 0), (.bipush 6, 2, 0, 0), (.newarray .int, 2, 0, 0), (.putfield 9, 3, 1, 1), (.aload_n 0, 1, 0, 0), (.aload_n 1, 1, 0, 0), (.putfield 15, 3, 1, 0)], (.return_, 1, (0, 0, 0), []))])
def am_X1_spread : ab_M := (3, [], [
  (0, [(.iconst 0, 1, 0, 0), (.istore_n 2, 1, 0, 0)], (.nop, 0, (0, 0, 0), [1])),
  (2, [(.iload_n 2, 1, 0, 0), (.bipush 6, 2, 0, 0)], (.if_icmp .ge 21, 3, (0, 0, 0), [6, 2])),
  (8, [(.aload_n 0, 1, 0, 0), (.iload_n 1, 1, 0, 0), (.iconst 0, 1, 0, 0), (.iload_n 2, 1, 0, 0)], (.invokevirtual 19, 3, (10, 4, 1), [3])),
  (15, [], (.ifCond .eq 5, 3, (0, 0, 0), [5, 4])),
  (18, [(.iload_n 2, 1, 0, 0)], (.ireturn, 1, (0, 0, 0), [])),
  (20, [(.iinc 2 1, 3, 0, 0)], (.goto (-21), 3, (0, 0, 0), [1])),
  (26, [(.aload_n 0, 1, 0, 0), (.iload_n 1, 1, 0, 0), (.iconst 0, 1, 0, 0), (.bipush 6, 2, 0, 0)], (.invokevirtual 19, 3, (10, 4, 1), [7])),
  (34, [(.pop, 1, 0, 0), (.bipush 6, 2, 0, 0)], (.ireturn, 1, (0, 0, 0), []))])
def am_X1_fill : ab_M := (5, [], [
  (0, [(.iload_n 2, 1, 0, 0), (.aload_n 0, 1, 0, 0), (.getfield 15, 3, 1, 0), (.getfield 23, 3, 6, 6)], (.if_icmp .lt 5, 3, (0, 0, 0), [2, 1])),
  (11, [(.iconst 1, 1, 0, 0)], (.ireturn, 1, (1, 0, 0), [])),
  (13, [(.iload_n 1, 1, 0, 0), (.iload_n 2, 1, 0, 0), (.ishr, 1, 0, 0), (.iconst 1, 1, 0, 0), (.iand, 1, 0, 0)], (.ifCond .ne 13, 3, (0, 0, 0), [5, 3])),
  (21, [(.aload_n 0, 1, 0, 0), (.iload_n 1, 1, 0, 0), (.iload_n 2, 1, 0, 0), (.iconst 1, 1, 0, 0), (.iadd, 1, 0, 0), (.iload_n 3, 1, 0, 0)], (.invokevirtual 19, 3, (10, 4, 1), [4])),
  (30, [], (.ireturn, 1, (1, 0, 0), [])),
  (31, [(.iconst 0, 1, 0, 0), (.istore 4, 2, 0, 0)], (.nop, 0, (0, 0, 0), [6])),
  (34, [(.iload 4, 2, 0, 0), (.iload_n 3, 1, 0, 0)], (.if_icmp .ge 42, 3, (0, 0, 0), [13, 7])),
  (40, [(.aload_n 0, 1, 0, 0), (.iload_n 1, 1, 0, 0), (.iload_n 2, 1, 0, 0), (.iload 4, 2, 0, 0)], (.invokevirtual 29, 3, (11, 4, 1), [8])),
  (48, [], (.ifCond .eq 25, 3, (0, 0, 0), [12, 9])),
  (51, [(.aload_n 0, 1, 0, 0), (.getfield 9, 3, 1, 1), (.iload_n 2, 1, 0, 0), (.iload 4, 2, 0, 0), (.iastore, 1, 0, 0), (.aload_n 0, 1, 0, 0), (.iload_n 1, 1, 0, 0), (.iload_n 2, 1, 0, 0), (.iconst 1, 1, 0, 0), (.iadd, 1, 0, 0), (.iload_n 3, 1, 0, 0)], (.invokevirtual 19, 3, (10, 4, 1), [10])),
  (68, [], (.ifCond .eq 5, 3, (0, 0, 0), [12, 11])),
  (71, [(.iconst 1, 1, 0, 0)], (.ireturn, 1, (1, 0, 0), [])),
  (73, [(.iinc 4 1, 3, 0, 0)], (.goto (-42), 3, (0, 0, 0), [6])),
  (79, [(.iconst 0, 1, 0, 0)], (.ireturn, 1, (1, 0, 0), []))])
def am_X1_isFree : ab_M := (5, [], [
  (0, [(.iconst 0, 1, 0, 0), (.istore 4, 2, 0, 0)], (.nop, 0, (0, 0, 0), [1])),
  (3, [(.iload 4, 2, 0, 0), (.iload_n 2, 1, 0, 0)], (.if_icmp .ge 57, 3, (0, 0, 0), [10, 2])),
  (9, [(.iload_n 1, 1, 0, 0), (.iload 4, 2, 0, 0), (.ishr, 1, 0, 0), (.iconst 1, 1, 0, 0), (.iand, 1, 0, 0)], (.ifCond .eq 42, 3, (0, 0, 0), [9, 3])),
  (18, [(.aload_n 0, 1, 0, 0), (.getfield 9, 3, 1, 1), (.iload 4, 2, 0, 0), (.iaload, 1, 0, 0), (.iload_n 3, 1, 0, 0)], (.if_icmp .ne 31, 3, (0, 0, 0), [9, 4])),
  (29, [(.aload_n 0, 1, 0, 0), (.getfield 15, 3, 1, 0), (.iload_n 2, 1, 0, 0), (.iload 4, 2, 0, 0)], (.invokevirtual 32, 3, (66, 3, 6), [5])),
  (39, [], (.ifCond .ne 16, 3, (0, 0, 0), [8, 6])),
  (42, [(.aload_n 0, 1, 0, 0), (.getfield 15, 3, 1, 0), (.iload_n 2, 1, 0, 0), (.iload 4, 2, 0, 0)], (.invokevirtual 36, 3, (67, 3, 6), [7])),
  (52, [], (.ifCond .eq 5, 3, (0, 0, 0), [9, 8])),
  (55, [(.iconst 0, 1, 0, 0)], (.ireturn, 1, (1, 0, 0), [])),
  (57, [(.iinc 4 1, 3, 0, 0)], (.goto (-57), 3, (0, 0, 0), [1])),
  (63, [(.iconst 1, 1, 0, 0)], (.ireturn, 1, (1, 0, 0), []))])
def am_X2_init : ab_M := (2, [], [
  (0, [(.aload_n 0, 1, 0, 0), (.invokespecial 3, 3, 0, 0), (.aload_n 0, 1, 0, 0), (.aload_n 1, 1, 0, 0), (.putfield 9, 3, 2, 0)], (.return_, 1, (0, 0, 0), []))])
def am_X2_faults : ab_M := (5, [], [
  (0, [(.iconst 0, 1, 0, 0), (.istore_n 2, 1, 0, 0), (.iconst 0, 1, 0, 0), (.istore_n 3, 1, 0, 0)], (.nop, 0, (0, 0, 0), [1])),
  (4, [(.iload_n 3, 1, 0, 0), (.aload_n 0, 1, 0, 0), (.getfield 9, 3, 2, 0), (.getfield 15, 3, 6, 6)], (.if_icmp .ge 85, 3, (0, 0, 0), [15, 2])),
  (15, [(.iload_n 2, 1, 0, 0), (.aload_n 0, 1, 0, 0), (.getfield 9, 3, 2, 0), (.iload_n 3, 1, 0, 0), (.aload_n 1, 1, 0, 0), (.getfield 21, 3, 9, 2), (.iload_n 3, 1, 0, 0), (.iaload, 1, 0, 0)], (.invokevirtual 27, 3, (64, 3, 6), [3])),
  (30, [], (.ifCond .eq 7, 3, (0, 0, 0), [5, 4])),
  (33, [(.iconst 0, 1, 0, 0)], (.goto 4, 3, (0, 0, 0), [6])),
  (37, [(.iconst 1, 1, 0, 0)], (.nop, 0, (0, 0, 0), [6])),
  (38, [(.iadd, 1, 0, 0), (.istore_n 2, 1, 0, 0), (.iload_n 2, 1, 0, 0), (.aload_n 0, 1, 0, 0), (.getfield 9, 3, 2, 0), (.iload_n 3, 1, 0, 0), (.aload_n 1, 1, 0, 0), (.getfield 31, 3, 9, 3), (.iload_n 3, 1, 0, 0), (.iaload, 1, 0, 0)], (.invokevirtual 34, 3, (65, 3, 6), [7])),
  (55, [], (.ifCond .eq 7, 3, (0, 0, 0), [9, 8])),
  (58, [(.iconst 0, 1, 0, 0)], (.goto 4, 3, (0, 0, 0), [10])),
  (62, [(.iconst 1, 1, 0, 0)], (.nop, 0, (0, 0, 0), [10])),
  (63, [(.iadd, 1, 0, 0), (.istore_n 2, 1, 0, 0), (.iconst 0, 1, 0, 0), (.istore 4, 2, 0, 0)], (.nop, 0, (0, 0, 0), [11])),
  (68, [(.iload 4, 2, 0, 0), (.iload_n 3, 1, 0, 0)], (.if_icmp .ge 20, 3, (0, 0, 0), [14, 12])),
  (74, [(.iload_n 2, 1, 0, 0), (.aload_n 0, 1, 0, 0), (.aload_n 1, 1, 0, 0), (.iload_n 3, 1, 0, 0), (.iload 4, 2, 0, 0)], (.invokevirtual 37, 3, (14, 4, 2), [13])),
  (83, [(.iadd, 1, 0, 0), (.istore_n 2, 1, 0, 0), (.iinc 4 1, 3, 0, 0)], (.goto (-20), 3, (0, 0, 0), [11])),
  (91, [(.iinc 3 1, 3, 0, 0)], (.goto (-90), 3, (0, 0, 0), [1])),
  (97, [(.iload_n 2, 1, 0, 0)], (.ireturn, 1, (0, 0, 0), []))])
def am_X2_pairFaults : ab_M := (4, [], [
  (0, [(.aload_n 0, 1, 0, 0), (.getfield 9, 3, 2, 0), (.iload_n 2, 1, 0, 0), (.aload_n 1, 1, 0, 0), (.getfield 21, 3, 9, 2), (.iload_n 2, 1, 0, 0), (.iaload, 1, 0, 0)], (.invokevirtual 41, 3, (63, 3, 6), [1])),
  (14, [(.aload_n 0, 1, 0, 0), (.getfield 9, 3, 2, 0), (.iload_n 3, 1, 0, 0), (.aload_n 1, 1, 0, 0), (.getfield 21, 3, 9, 2), (.iload_n 3, 1, 0, 0), (.iaload, 1, 0, 0)], (.invokevirtual 41, 3, (63, 3, 6), [2])),
  (28, [(.iand, 1, 0, 0)], (.ifCond .ne 5, 3, (0, 0, 0), [4, 3])),
  (32, [(.iconst 0, 1, 0, 0)], (.ireturn, 1, (0, 0, 0), [])),
  (34, [(.aload_n 0, 1, 0, 0), (.getfield 9, 3, 2, 0), (.iload_n 2, 1, 0, 0), (.iload_n 3, 1, 0, 0)], (.invokevirtual 45, 3, (66, 3, 6), [5])),
  (43, [], (.ifCond .eq 7, 3, (0, 0, 0), [7, 6])),
  (46, [(.iconst 1, 1, 0, 0)], (.goto 4, 3, (0, 0, 0), [8])),
  (50, [(.iconst 0, 1, 0, 0)], (.nop, 0, (0, 0, 0), [8])),
  (51, [(.aload_n 0, 1, 0, 0), (.getfield 9, 3, 2, 0), (.iload_n 2, 1, 0, 0), (.iload_n 3, 1, 0, 0)], (.invokevirtual 48, 3, (67, 3, 6), [9])),
  (60, [], (.ifCond .eq 7, 3, (0, 0, 0), [11, 10])),
  (63, [(.iconst 1, 1, 0, 0)], (.goto 4, 3, (0, 0, 0), [12])),
  (67, [(.iconst 0, 1, 0, 0)], (.nop, 0, (0, 0, 0), [12])),
  (68, [(.iadd, 1, 0, 0), (.aload_n 1, 1, 0, 0), (.getfield 31, 3, 9, 3), (.iload_n 2, 1, 0, 0), (.iaload, 1, 0, 0), (.aload_n 1, 1, 0, 0), (.getfield 31, 3, 9, 3), (.iload_n 3, 1, 0, 0), (.iaload, 1, 0, 0)], (.if_icmp .ne 7, 3, (0, 0, 0), [14, 13])),
  (84, [(.iconst 1, 1, 0, 0)], (.goto 4, 3, (0, 0, 0), [15])),
  (88, [(.iconst 0, 1, 0, 0)], (.nop, 0, (0, 0, 0), [15])),
  (89, [(.iadd, 1, 0, 0)], (.ireturn, 1, (0, 0, 0), []))])
def am_X2_toldBroken : ab_M := (7, [], [
  (0, [(.iconst 0, 1, 0, 0), (.istore_n 2, 1, 0, 0), (.iconst 0, 1, 0, 0), (.istore_n 3, 1, 0, 0)], (.nop, 0, (0, 0, 0), [1])),
  (4, [(.iload_n 3, 1, 0, 0), (.aload_n 0, 1, 0, 0), (.getfield 9, 3, 2, 0), (.getfield 51, 3, 6, 7)], (.if_icmp .ge 228, 3, (0, 0, 0), [28, 2])),
  (15, [(.aload_n 0, 1, 0, 0), (.getfield 9, 3, 2, 0), (.getfield 54, 3, 6, 16), (.iload_n 3, 1, 0, 0), (.iaload, 1, 0, 0), (.istore 4, 2, 0, 0), (.aload_n 0, 1, 0, 0), (.getfield 9, 3, 2, 0), (.getfield 57, 3, 6, 17), (.iload_n 3, 1, 0, 0), (.iaload, 1, 0, 0), (.istore 5, 2, 0, 0), (.aload_n 0, 1, 0, 0), (.getfield 9, 3, 2, 0), (.getfield 60, 3, 6, 15), (.iload_n 3, 1, 0, 0), (.iaload, 1, 0, 0)], (.tableswitch 149 0 7 #[46, 80, 149, 149, 149, 149, 102, 124], 46, (0, 0, 0), [3, 8, 22, 22, 22, 22, 13, 17, 22])),
  (92, [(.aload_n 0, 1, 0, 0), (.getfield 9, 3, 2, 0), (.iload 4, 2, 0, 0), (.aload_n 1, 1, 0, 0), (.getfield 21, 3, 9, 2), (.iload 4, 2, 0, 0), (.iaload, 1, 0, 0)], (.invokevirtual 41, 3, (63, 3, 6), [4])),
  (108, [(.iload 5, 2, 0, 0), (.ishr, 1, 0, 0), (.iconst 1, 1, 0, 0), (.iand, 1, 0, 0)], (.ifCond .ne 7, 3, (0, 0, 0), [6, 5])),
  (116, [(.iconst 1, 1, 0, 0)], (.goto 4, 3, (0, 0, 0), [7])),
  (120, [(.iconst 0, 1, 0, 0)], (.nop, 0, (0, 0, 0), [7])),
  (121, [(.istore 6, 2, 0, 0)], (.goto 96, 3, (0, 0, 0), [24])),
  (126, [(.aload_n 0, 1, 0, 0), (.aload_n 1, 1, 0, 0), (.iload 4, 2, 0, 0)], (.invokevirtual 63, 3, (19, 3, 2), [9])),
  (133, [(.iload 5, 2, 0, 0)], (.if_icmp .gt 7, 3, (0, 0, 0), [11, 10])),
  (138, [(.iconst 1, 1, 0, 0)], (.goto 4, 3, (0, 0, 0), [12])),
  (142, [(.iconst 0, 1, 0, 0)], (.nop, 0, (0, 0, 0), [12])),
  (143, [(.istore 6, 2, 0, 0)], (.goto 74, 3, (0, 0, 0), [24])),
  (148, [(.aload_n 1, 1, 0, 0), (.getfield 31, 3, 9, 3), (.iload 4, 2, 0, 0), (.iaload, 1, 0, 0), (.iload 5, 2, 0, 0)], (.if_icmp .ne 7, 3, (0, 0, 0), [15, 14])),
  (160, [(.iconst 1, 1, 0, 0)], (.goto 4, 3, (0, 0, 0), [16])),
  (164, [(.iconst 0, 1, 0, 0)], (.nop, 0, (0, 0, 0), [16])),
  (165, [(.istore 6, 2, 0, 0)], (.goto 52, 3, (0, 0, 0), [24])),
  (170, [(.aload_n 0, 1, 0, 0), (.aload_n 1, 1, 0, 0), (.iload 4, 2, 0, 0)], (.invokevirtual 67, 3, (17, 3, 2), [18])),
  (177, [(.iload 5, 2, 0, 0), (.ishr, 1, 0, 0), (.iconst 1, 1, 0, 0), (.iand, 1, 0, 0)], (.ifCond .ne 7, 3, (0, 0, 0), [20, 19])),
  (185, [(.iconst 1, 1, 0, 0)], (.goto 4, 3, (0, 0, 0), [21])),
  (189, [(.iconst 0, 1, 0, 0)], (.nop, 0, (0, 0, 0), [21])),
  (190, [(.istore 6, 2, 0, 0)], (.goto 27, 3, (0, 0, 0), [24])),
  (195, [(.aload_n 0, 1, 0, 0), (.getfield 9, 3, 2, 0), (.iload_n 3, 1, 0, 0), (.aload_n 1, 1, 0, 0), (.getfield 21, 3, 9, 2), (.iload 4, 2, 0, 0), (.iaload, 1, 0, 0), (.aload_n 1, 1, 0, 0), (.getfield 21, 3, 9, 2), (.iload 5, 2, 0, 0), (.iaload, 1, 0, 0)], (.invokevirtual 70, 3, (72, 4, 6), [23])),
  (217, [(.istore 6, 2, 0, 0)], (.nop, 0, (0, 0, 0), [24])),
  (219, [(.iload_n 2, 1, 0, 0), (.iload 6, 2, 0, 0)], (.ifCond .eq 7, 3, (0, 0, 0), [26, 25])),
  (225, [(.iconst 0, 1, 0, 0)], (.goto 6, 3, (0, 0, 0), [27])),
  (229, [(.iconst 1, 1, 0, 0), (.iload_n 3, 1, 0, 0), (.ishl, 1, 0, 0)], (.nop, 0, (0, 0, 0), [27])),
  (232, [(.ior, 1, 0, 0), (.istore_n 2, 1, 0, 0), (.iinc 3 1, 3, 0, 0)], (.goto (-233), 3, (0, 0, 0), [1])),
  (240, [(.iload_n 2, 1, 0, 0)], (.ireturn, 1, (0, 0, 0), []))])
def am_X2_isGood : ab_M := (2, [], [
  (0, [(.aload_n 0, 1, 0, 0), (.aload_n 1, 1, 0, 0)], (.invokevirtual 74, 3, (13, 2, 2), [1])),
  (5, [], (.ifCond .ne 15, 3, (0, 0, 0), [5, 2])),
  (8, [(.aload_n 0, 1, 0, 0), (.aload_n 1, 1, 0, 0)], (.invokevirtual 78, 3, (15, 2, 2), [3])),
  (13, [], (.ifCond .ne 7, 3, (0, 0, 0), [5, 4])),
  (16, [(.iconst 1, 1, 0, 0)], (.goto 4, 3, (0, 0, 0), [6])),
  (20, [(.iconst 0, 1, 0, 0)], (.nop, 0, (0, 0, 0), [6])),
  (21, [], (.ireturn, 1, (1, 0, 0), []))])
def am_X2_coverOfTeacher : ab_M := (5, [], [
  (0, [(.iconst 0, 1, 0, 0), (.istore_n 3, 1, 0, 0), (.iconst 0, 1, 0, 0), (.istore 4, 2, 0, 0)], (.nop, 0, (0, 0, 0), [1])),
  (5, [(.iload 4, 2, 0, 0), (.aload_n 0, 1, 0, 0), (.getfield 9, 3, 2, 0), (.getfield 15, 3, 6, 6)], (.if_icmp .ge 42, 3, (0, 0, 0), [6, 2])),
  (17, [(.aload_n 0, 1, 0, 0), (.getfield 9, 3, 2, 0), (.getfield 81, 3, 6, 13), (.iload 4, 2, 0, 0), (.iaload, 1, 0, 0), (.iload_n 2, 1, 0, 0)], (.if_icmp .ne 22, 3, (0, 0, 0), [5, 3])),
  (31, [(.iload_n 3, 1, 0, 0), (.aload_n 0, 1, 0, 0), (.getfield 9, 3, 2, 0), (.iload 4, 2, 0, 0), (.aload_n 1, 1, 0, 0), (.getfield 21, 3, 9, 2), (.iload 4, 2, 0, 0), (.iaload, 1, 0, 0)], (.invokevirtual 41, 3, (63, 3, 6), [4])),
  (48, [(.ior, 1, 0, 0), (.istore_n 3, 1, 0, 0)], (.nop, 0, (0, 0, 0), [5])),
  (50, [(.iinc 4 1, 3, 0, 0)], (.goto (-48), 3, (0, 0, 0), [1])),
  (56, [(.iload_n 3, 1, 0, 0)], (.ireturn, 1, (0, 0, 0), []))])
def am_X2_longestDay : ab_M := (6, [], [
  (0, [(.aload_n 0, 1, 0, 0), (.aload_n 1, 1, 0, 0), (.iload_n 2, 1, 0, 0)], (.invokevirtual 67, 3, (17, 3, 2), [1])),
  (6, [(.istore_n 3, 1, 0, 0), (.iconst 0, 1, 0, 0), (.istore 4, 2, 0, 0), (.iconst 0, 1, 0, 0), (.istore 5, 2, 0, 0)], (.nop, 0, (0, 0, 0), [2])),
  (13, [(.iload 5, 2, 0, 0), (.aload_n 0, 1, 0, 0), (.getfield 9, 3, 2, 0), (.getfield 84, 3, 6, 0)], (.if_icmp .ge 30, 3, (0, 0, 0), [6, 3])),
  (25, [(.iload 4, 2, 0, 0), (.iload_n 3, 1, 0, 0), (.aload_n 0, 1, 0, 0), (.getfield 9, 3, 2, 0), (.iload 5, 2, 0, 0)], (.invokevirtual 87, 3, (60, 2, 6), [4])),
  (37, [(.iand, 1, 0, 0)], (.invokestatic 91, 3, (277, 1, 200), [5])),
  (41, [(.invokestatic 96, 3, 1, 0), (.istore 4, 2, 0, 0), (.iinc 5 1, 3, 0, 0)], (.goto (-36), 3, (0, 0, 0), [2])),
  (52, [(.iload 4, 2, 0, 0)], (.ireturn, 1, (0, 0, 0), []))])
def am_X2_lessonsIn : ab_M := (5, [], [
  (0, [(.iconst 0, 1, 0, 0), (.istore_n 3, 1, 0, 0), (.iconst 0, 1, 0, 0), (.istore 4, 2, 0, 0)], (.nop, 0, (0, 0, 0), [1])),
  (5, [(.iload 4, 2, 0, 0), (.aload_n 0, 1, 0, 0), (.getfield 9, 3, 2, 0), (.getfield 15, 3, 6, 6)], (.if_icmp .ge 39, 3, (0, 0, 0), [6, 2])),
  (17, [(.aload_n 0, 1, 0, 0), (.getfield 9, 3, 2, 0), (.iload 4, 2, 0, 0), (.aload_n 1, 1, 0, 0), (.getfield 21, 3, 9, 2), (.iload 4, 2, 0, 0), (.iaload, 1, 0, 0)], (.invokevirtual 41, 3, (63, 3, 6), [3])),
  (33, [(.iload_n 2, 1, 0, 0), (.ishr, 1, 0, 0), (.iconst 1, 1, 0, 0), (.iand, 1, 0, 0)], (.ifCond .eq 10, 3, (0, 0, 0), [5, 4])),
  (40, [(.iload_n 3, 1, 0, 0), (.iconst 1, 1, 0, 0), (.iload 4, 2, 0, 0), (.ishl, 1, 0, 0), (.ior, 1, 0, 0), (.istore_n 3, 1, 0, 0)], (.nop, 0, (0, 0, 0), [5])),
  (47, [(.iinc 4 1, 3, 0, 0)], (.goto (-45), 3, (0, 0, 0), [1])),
  (53, [(.iload_n 3, 1, 0, 0)], (.ireturn, 1, (0, 0, 0), []))])
def am_X2_weightOf : ab_M := (4, [], [
  (0, [(.iconst 0, 1, 0, 0), (.istore_n 2, 1, 0, 0), (.iconst 0, 1, 0, 0), (.istore_n 3, 1, 0, 0)], (.nop, 0, (0, 0, 0), [1])),
  (4, [(.iload_n 3, 1, 0, 0), (.aload_n 0, 1, 0, 0), (.getfield 9, 3, 2, 0), (.getfield 15, 3, 6, 6)], (.if_icmp .ge 32, 3, (0, 0, 0), [4, 2])),
  (15, [(.iload_n 2, 1, 0, 0), (.aload_n 0, 1, 0, 0), (.getfield 9, 3, 2, 0), (.iload_n 3, 1, 0, 0), (.aload_n 1, 1, 0, 0), (.getfield 21, 3, 9, 2), (.iload_n 3, 1, 0, 0), (.iaload, 1, 0, 0), (.aload_n 1, 1, 0, 0), (.getfield 31, 3, 9, 3), (.iload_n 3, 1, 0, 0), (.iaload, 1, 0, 0)], (.invokevirtual 107, 3, (68, 4, 6), [3])),
  (36, [(.iadd, 1, 0, 0), (.istore_n 2, 1, 0, 0), (.iinc 3 1, 3, 0, 0)], (.goto (-37), 3, (0, 0, 0), [1])),
  (44, [(.iconst 0, 1, 0, 0), (.istore_n 3, 1, 0, 0)], (.nop, 0, (0, 0, 0), [5])),
  (46, [(.iload_n 3, 1, 0, 0), (.aload_n 0, 1, 0, 0), (.getfield 9, 3, 2, 0), (.getfield 111, 3, 6, 4)], (.if_icmp .ge 32, 3, (0, 0, 0), [9, 6])),
  (57, [(.iload_n 2, 1, 0, 0), (.aload_n 0, 1, 0, 0), (.getfield 9, 3, 2, 0), (.getfield 114, 3, 6, 18), (.iconst 2, 1, 0, 0), (.iaload, 1, 0, 0), (.aload_n 0, 1, 0, 0), (.aload_n 0, 1, 0, 0), (.aload_n 1, 1, 0, 0), (.iload_n 3, 1, 0, 0)], (.invokevirtual 67, 3, (17, 3, 2), [7])),
  (74, [], (.invokevirtual 117, 3, (23, 2, 2), [8])),
  (77, [(.imul, 1, 0, 0), (.iadd, 1, 0, 0), (.istore_n 2, 1, 0, 0), (.iinc 3 1, 3, 0, 0)], (.goto (-37), 3, (0, 0, 0), [5])),
  (86, [(.iload_n 2, 1, 0, 0)], (.ireturn, 1, (0, 0, 0), []))])
def am_X2_gapsIn : ab_M := (4, [], [
  (0, [(.iconst 0, 1, 0, 0), (.istore_n 2, 1, 0, 0), (.iconst 0, 1, 0, 0), (.istore_n 3, 1, 0, 0)], (.nop, 0, (0, 0, 0), [1])),
  (4, [(.iload_n 3, 1, 0, 0), (.aload_n 0, 1, 0, 0), (.getfield 9, 3, 2, 0), (.getfield 84, 3, 6, 0)], (.if_icmp .ge 36, 3, (0, 0, 0), [6, 2])),
  (15, [(.iload_n 1, 1, 0, 0), (.aload_n 0, 1, 0, 0), (.getfield 9, 3, 2, 0), (.iload_n 3, 1, 0, 0)], (.invokevirtual 87, 3, (60, 2, 6), [3])),
  (24, [(.iand, 1, 0, 0), (.iload_n 3, 1, 0, 0), (.aload_n 0, 1, 0, 0), (.getfield 9, 3, 2, 0), (.getfield 120, 3, 6, 1), (.imul, 1, 0, 0), (.ishr, 1, 0, 0), (.iconst 5, 1, 0, 0)], (.if_icmp .ne 6, 3, (0, 0, 0), [5, 4])),
  (39, [(.iinc 2 1, 3, 0, 0)], (.nop, 0, (0, 0, 0), [5])),
  (42, [(.iinc 3 1, 3, 0, 0)], (.goto (-41), 3, (0, 0, 0), [1])),
  (48, [(.iload_n 2, 1, 0, 0)], (.ireturn, 1, (0, 0, 0), []))])
def am_X3_init : ab_M := (2, [], [
  (0, [(.aload_n 0, 1, 0, 0), (.invokespecial 3, 3, 0, 0), (.aload_n 0, 1, 0, 0), (.bipush 6, 2, 0, 0), (.newarray .int, 2, 0, 0), (.putfield 9, 3, 3, 1), (.aload_n 0, 1, 0, 0), (.bipush 6, 2, 0, 0), (.newarray .int, 2, 0, 0), (.putfield 15, 3, 3, 2), (.aload_n 0, 1, 0, 0), (.iconst 4, 1, 0, 0), (.newarray .int, 2, 0, 0), (.putfield 18, 3, 3, 3), (.aload_n 0, 1, 0, 0), (.sipush 216, 3, 0, 0), (.newarray .int, 2, 0, 0), (.putfield 21, 3, 3, 4), (.aload_n 0, 1, 0, 0), (.sipush 216, 3, 0, 0), (.newarray .int, 2, 0, 0), (.putfield 24, 3, 3, 5), (.aload_n 0, 1, 0, 0), (.bipush 36, 2, 0, 0), (.newarray .int, 2, 0, 0), (.putfield 27, 3, 3, 6), (.aload_n 0, 1, 0, 0), (.bipush 108, 2, 0, 0), (.newarray .int, 2, 0, 0), (.putfield 30, 3, 3, 7), (.aload_n 0, 1, 0, 0), (.bipush 36, 2, 0, 0), (.newarray .int, 2, 0, 0), (.putfield 33, 3, 3, 8), (.aload_n 0, 1, 0, 0), (.iconst 0, 1, 0, 0), (.putfield 36, 3, 3, 9), (.aload_n 0, 1, 0, 0), (.iconst 0, 1, 0, 0), (.putfield 40, 3, 3, 10), (.aload_n 0, 1, 0, 0), (.iconst (-1), 1, 0, 0), (.putfield 43, 3, 3, 11), (.aload_n 0, 1, 0, 0), (.aload_n 1, 1, 0, 0), (.putfield 46, 3, 3, 0)], (.return_, 1, (0, 0, 0), []))])
def am_X3_ask : ab_M := (4, [], [
  (0, [(.aload_n 0, 1, 0, 0), (.getfield 43, 3, 3, 11), (.aload_n 0, 1, 0, 0), (.getfield 46, 3, 3, 0), (.getfield 50, 3, 6, 8)], (.if_icmp .eq 18, 3, (0, 0, 0), [2, 1])),
  (14, [(.aload_n 0, 1, 0, 0), (.aload_n 0, 1, 0, 0), (.getfield 46, 3, 3, 0), (.getfield 50, 3, 6, 8), (.putfield 43, 3, 3, 11), (.aload_n 0, 1, 0, 0)], (.invokevirtual 55, 3, (29, 1, 3), [2])),
  (29, [(.aload_n 0, 1, 0, 0), (.iconst 0, 1, 0, 0), (.putfield 40, 3, 3, 10), (.aload_n 0, 1, 0, 0), (.getfield 30, 3, 3, 7), (.iconst 0, 1, 0, 0)], (.invokestatic 58, 3, (278, 2, 200), [3])),
  (42, [(.aload_n 0, 1, 0, 0), (.getfield 33, 3, 3, 8), (.iconst 0, 1, 0, 0)], (.invokestatic 58, 3, (278, 2, 200), [4])),
  (50, [(.aload_n 0, 1, 0, 0), (.getfield 18, 3, 3, 3), (.iconst 3, 1, 0, 0)], (.invokestatic 58, 3, (278, 2, 200), [5])),
  (58, [(.aload_n 0, 1, 0, 0), (.getfield 24, 3, 3, 5), (.iconst 0, 1, 0, 0), (.aload_n 0, 1, 0, 0), (.getfield 21, 3, 3, 4), (.iconst 0, 1, 0, 0), (.aload_n 0, 1, 0, 0), (.getfield 21, 3, 3, 4), (.arraylength, 1, 0, 0), (.invokestatic 64, 3, 0, 0), (.iconst 0, 1, 0, 0), (.istore_n 2, 1, 0, 0)], (.nop, 0, (0, 0, 0), [6])),
  (78, [(.iload_n 2, 1, 0, 0), (.aload_n 0, 1, 0, 0), (.getfield 46, 3, 3, 0), (.getfield 70, 3, 6, 6)], (.if_icmp .ge 14, 3, (0, 0, 0), [9, 7])),
  (89, [(.aload_n 0, 1, 0, 0), (.iload_n 2, 1, 0, 0)], (.invokevirtual 73, 3, (31, 2, 3), [8])),
  (94, [(.iinc 2 1, 3, 0, 0)], (.goto (-19), 3, (0, 0, 0), [6])),
  (100, [(.iconst 0, 1, 0, 0), (.istore_n 2, 1, 0, 0)], (.nop, 0, (0, 0, 0), [10])),
  (102, [(.iload_n 2, 1, 0, 0), (.aload_n 0, 1, 0, 0), (.getfield 46, 3, 3, 0), (.getfield 77, 3, 6, 7)], (.if_icmp .ge 22, 3, (0, 0, 0), [14, 11])),
  (113, [(.iload_n 1, 1, 0, 0), (.iload_n 2, 1, 0, 0), (.ishr, 1, 0, 0), (.iconst 1, 1, 0, 0), (.iand, 1, 0, 0)], (.ifCond .eq 8, 3, (0, 0, 0), [13, 12])),
  (121, [(.aload_n 0, 1, 0, 0), (.iload_n 2, 1, 0, 0)], (.invokevirtual 80, 3, (32, 2, 3), [13])),
  (126, [(.iinc 2 1, 3, 0, 0)], (.goto (-27), 3, (0, 0, 0), [10])),
  (132, [(.iconst 0, 1, 0, 0), (.istore_n 2, 1, 0, 0)], (.nop, 0, (0, 0, 0), [15])),
  (134, [(.iload_n 2, 1, 0, 0), (.aload_n 0, 1, 0, 0), (.getfield 46, 3, 3, 0), (.getfield 70, 3, 6, 6)], (.if_icmp .ge 28, 3, (0, 0, 0), [21, 16])),
  (145, [(.iconst 0, 1, 0, 0), (.istore_n 3, 1, 0, 0)], (.nop, 0, (0, 0, 0), [17])),
  (147, [(.iload_n 3, 1, 0, 0), (.iload_n 2, 1, 0, 0)], (.if_icmp .ge 15, 3, (0, 0, 0), [20, 18])),
  (152, [(.aload_n 0, 1, 0, 0), (.iload_n 2, 1, 0, 0), (.iload_n 3, 1, 0, 0)], (.invokevirtual 83, 3, (34, 3, 3), [19])),
  (158, [(.iinc 3 1, 3, 0, 0)], (.goto (-14), 3, (0, 0, 0), [17])),
  (164, [(.iinc 2 1, 3, 0, 0)], (.goto (-33), 3, (0, 0, 0), [15])),
  (170, [(.iconst 1, 1, 0, 0), (.istore_n 2, 1, 0, 0), (.iconst 0, 1, 0, 0), (.istore_n 3, 1, 0, 0)], (.nop, 0, (0, 0, 0), [22])),
  (174, [(.iload_n 3, 1, 0, 0), (.bipush 36, 2, 0, 0)], (.if_icmp .gt 18, 3, (0, 0, 0), [26, 23])),
  (180, [(.iload_n 2, 1, 0, 0)], (.ifCond .eq 14, 3, (0, 0, 0), [26, 24])),
  (184, [(.aload_n 0, 1, 0, 0)], (.invokevirtual 87, 3, (35, 1, 3), [25])),
  (188, [(.istore_n 2, 1, 0, 0), (.iinc 3 1, 3, 0, 0)], (.goto (-18), 3, (0, 0, 0), [22])),
  (195, [], (.return_, 1, (0, 0, 0), []))])
def am_X3_pairIndex : ab_M := (3, [], [
  (0, [(.iload_n 0, 1, 0, 0), (.bipush 6, 2, 0, 0), (.imul, 1, 0, 0), (.iload_n 1, 1, 0, 0), (.iadd, 1, 0, 0), (.bipush 6, 2, 0, 0), (.imul, 1, 0, 0), (.iload_n 2, 1, 0, 0), (.iadd, 1, 0, 0)], (.ireturn, 1, (0, 0, 0), []))])
def am_X3_valueIndex : ab_M := (3, [], [
  (0, [(.iload_n 0, 1, 0, 0), (.bipush 6, 2, 0, 0), (.imul, 1, 0, 0), (.iload_n 1, 1, 0, 0), (.iadd, 1, 0, 0), (.iconst 3, 1, 0, 0), (.imul, 1, 0, 0), (.iload_n 2, 1, 0, 0), (.iadd, 1, 0, 0)], (.ireturn, 1, (0, 0, 0), []))])
def am_X3_learnGround : ab_M := (4, [], [
  (0, [(.aload_n 0, 1, 0, 0), (.aload_n 0, 1, 0, 0), (.getfield 46, 3, 3, 0)], (.invokevirtual 91, 3, (61, 1, 6), [1])),
  (8, [(.putfield 36, 3, 3, 9), (.iconst 0, 1, 0, 0), (.istore_n 1, 1, 0, 0)], (.nop, 0, (0, 0, 0), [2])),
  (13, [(.iload_n 1, 1, 0, 0), (.aload_n 0, 1, 0, 0), (.getfield 46, 3, 3, 0), (.getfield 70, 3, 6, 6)], (.if_icmp .ge 85, 3, (0, 0, 0), [13, 3])),
  (24, [(.iconst 0, 1, 0, 0), (.istore_n 2, 1, 0, 0)], (.nop, 0, (0, 0, 0), [4])),
  (26, [(.iload_n 2, 1, 0, 0), (.aload_n 0, 1, 0, 0), (.getfield 46, 3, 3, 0), (.getfield 94, 3, 6, 2)], (.if_icmp .ge 66, 3, (0, 0, 0), [12, 5])),
  (37, [(.aload_n 0, 1, 0, 0), (.getfield 27, 3, 3, 6), (.iload_n 1, 1, 0, 0), (.bipush 6, 2, 0, 0), (.imul, 1, 0, 0), (.iload_n 2, 1, 0, 0), (.iadd, 1, 0, 0), (.aload_n 0, 1, 0, 0), (.getfield 46, 3, 3, 0), (.iload_n 1, 1, 0, 0), (.iload_n 2, 1, 0, 0)], (.invokevirtual 97, 3, (63, 3, 6), [6])),
  (56, [(.iastore, 1, 0, 0), (.iconst 0, 1, 0, 0), (.istore_n 3, 1, 0, 0)], (.nop, 0, (0, 0, 0), [7])),
  (59, [(.iload_n 3, 1, 0, 0), (.aload_n 0, 1, 0, 0), (.getfield 46, 3, 3, 0), (.getfield 70, 3, 6, 6)], (.if_icmp .ge 27, 3, (0, 0, 0), [11, 8])),
  (70, [(.aload_n 0, 1, 0, 0), (.getfield 24, 3, 3, 5), (.iload_n 1, 1, 0, 0), (.iload_n 2, 1, 0, 0), (.iload_n 3, 1, 0, 0)], (.invokestatic 100, 3, (27, 3, 200), [9])),
  (80, [(.aload_n 0, 1, 0, 0), (.iload_n 1, 1, 0, 0), (.iload_n 2, 1, 0, 0), (.iload_n 3, 1, 0, 0)], (.invokevirtual 104, 3, (30, 4, 3), [10])),
  (87, [(.iastore, 1, 0, 0), (.iinc 3 1, 3, 0, 0)], (.goto (-32), 3, (0, 0, 0), [7])),
  (94, [(.iinc 2 1, 3, 0, 0)], (.goto (-71), 3, (0, 0, 0), [4])),
  (100, [(.iinc 1 1, 3, 0, 0)], (.goto (-90), 3, (0, 0, 0), [2])),
  (106, [], (.return_, 1, (0, 0, 0), []))])
def am_X3_groundPartners : ab_M := (6, [], [
  (0, [(.aload_n 0, 1, 0, 0), (.getfield 46, 3, 3, 0), (.iload_n 1, 1, 0, 0), (.iload_n 3, 1, 0, 0)], (.invokevirtual 107, 3, (66, 3, 6), [1])),
  (9, [], (.ifCond .ne 23, 3, (0, 0, 0), [6, 2])),
  (12, [(.aload_n 0, 1, 0, 0), (.getfield 46, 3, 3, 0), (.iload_n 1, 1, 0, 0), (.iload_n 3, 1, 0, 0)], (.invokevirtual 111, 3, (67, 3, 6), [3])),
  (21, [], (.ifCond .ne 11, 3, (0, 0, 0), [6, 4])),
  (24, [(.aload_n 0, 1, 0, 0), (.getfield 46, 3, 3, 0)], (.invokevirtual 114, 3, (55, 1, 6), [5])),
  (31, [], (.ireturn, 1, (0, 0, 0), [])),
  (32, [(.iconst 0, 1, 0, 0), (.istore 4, 2, 0, 0), (.iconst 0, 1, 0, 0), (.istore 5, 2, 0, 0)], (.nop, 0, (0, 0, 0), [7])),
  (38, [(.iload 5, 2, 0, 0), (.aload_n 0, 1, 0, 0), (.getfield 46, 3, 3, 0), (.getfield 94, 3, 6, 2)], (.if_icmp .ge 41, 3, (0, 0, 0), [13, 8])),
  (50, [(.aload_n 0, 1, 0, 0), (.getfield 46, 3, 3, 0), (.iload_n 1, 1, 0, 0), (.iload_n 2, 1, 0, 0)], (.invokevirtual 97, 3, (63, 3, 6), [9])),
  (59, [(.aload_n 0, 1, 0, 0), (.getfield 46, 3, 3, 0), (.iload_n 3, 1, 0, 0), (.iload 5, 2, 0, 0)], (.invokevirtual 97, 3, (63, 3, 6), [10])),
  (69, [(.iand, 1, 0, 0)], (.ifCond .ne 12, 3, (0, 0, 0), [12, 11])),
  (73, [(.iload 4, 2, 0, 0), (.iconst 1, 1, 0, 0), (.iload 5, 2, 0, 0), (.ishl, 1, 0, 0), (.ior, 1, 0, 0), (.istore 4, 2, 0, 0)], (.nop, 0, (0, 0, 0), [12])),
  (82, [(.iinc 5 1, 3, 0, 0)], (.goto (-47), 3, (0, 0, 0), [7])),
  (88, [(.iload 4, 2, 0, 0)], (.ireturn, 1, (0, 0, 0), []))])
def am_X3_openLesson : ab_M := (5, [], [
  (0, [(.iconst 0, 1, 0, 0), (.istore_n 2, 1, 0, 0), (.iconst 0, 1, 0, 0), (.istore_n 3, 1, 0, 0)], (.nop, 0, (0, 0, 0), [1])),
  (4, [(.iload_n 3, 1, 0, 0), (.aload_n 0, 1, 0, 0), (.getfield 46, 3, 3, 0), (.getfield 94, 3, 6, 2)], (.if_icmp .ge 27, 3, (0, 0, 0), [6, 2])),
  (15, [(.aload_n 0, 1, 0, 0), (.getfield 46, 3, 3, 0), (.iload_n 1, 1, 0, 0), (.iload_n 3, 1, 0, 0)], (.invokevirtual 117, 3, (64, 3, 6), [3])),
  (24, [], (.ifCond .eq 9, 3, (0, 0, 0), [5, 4])),
  (27, [(.iload_n 2, 1, 0, 0), (.iconst 1, 1, 0, 0), (.iload_n 3, 1, 0, 0), (.ishl, 1, 0, 0), (.ior, 1, 0, 0), (.istore_n 2, 1, 0, 0)], (.nop, 0, (0, 0, 0), [5])),
  (33, [(.iinc 3 1, 3, 0, 0)], (.goto (-32), 3, (0, 0, 0), [1])),
  (39, [(.iconst 0, 1, 0, 0), (.istore_n 3, 1, 0, 0), (.iconst 0, 1, 0, 0), (.istore 4, 2, 0, 0)], (.nop, 0, (0, 0, 0), [7])),
  (44, [(.iload 4, 2, 0, 0), (.aload_n 0, 1, 0, 0), (.getfield 46, 3, 3, 0), (.getfield 120, 3, 6, 5)], (.if_icmp .ge 29, 3, (0, 0, 0), [12, 8])),
  (56, [(.aload_n 0, 1, 0, 0), (.getfield 46, 3, 3, 0), (.iload_n 1, 1, 0, 0), (.iload 4, 2, 0, 0)], (.invokevirtual 123, 3, (65, 3, 6), [9])),
  (66, [], (.ifCond .eq 10, 3, (0, 0, 0), [11, 10])),
  (69, [(.iload_n 3, 1, 0, 0), (.iconst 1, 1, 0, 0), (.iload 4, 2, 0, 0), (.ishl, 1, 0, 0), (.ior, 1, 0, 0), (.istore_n 3, 1, 0, 0)], (.nop, 0, (0, 0, 0), [11])),
  (76, [(.iinc 4 1, 3, 0, 0)], (.goto (-35), 3, (0, 0, 0), [7])),
  (82, [(.aload_n 0, 1, 0, 0), (.getfield 9, 3, 3, 1), (.iload_n 1, 1, 0, 0), (.iload_n 2, 1, 0, 0), (.iastore, 1, 0, 0), (.aload_n 0, 1, 0, 0), (.getfield 15, 3, 3, 2), (.iload_n 1, 1, 0, 0), (.iload_n 3, 1, 0, 0), (.iastore, 1, 0, 0)], (.return_, 1, (0, 0, 0), []))])
def am_X3_keep : ab_M := (4, [], [
  (0, [(.aload_n 0, 1, 0, 0), (.getfield 46, 3, 3, 0), (.getfield 126, 3, 6, 16), (.iload_n 1, 1, 0, 0), (.iaload, 1, 0, 0), (.istore_n 2, 1, 0, 0), (.aload_n 0, 1, 0, 0), (.getfield 46, 3, 3, 0), (.getfield 129, 3, 6, 17), (.iload_n 1, 1, 0, 0), (.iaload, 1, 0, 0), (.istore_n 3, 1, 0, 0), (.aload_n 0, 1, 0, 0), (.getfield 46, 3, 3, 0), (.getfield 132, 3, 6, 15), (.iload_n 1, 1, 0, 0), (.iaload, 1, 0, 0)], (.tableswitch 103 0 7 #[47, 58, 103, 103, 103, 103, 77, 92], 47, (0, 0, 0), [1, 3, 7, 7, 7, 7, 4, 5, 7])),
  (76, [(.aload_n 0, 1, 0, 0), (.iload_n 2, 1, 0, 0), (.iconst 1, 1, 0, 0), (.iload_n 3, 1, 0, 0), (.ishl, 1, 0, 0)], (.invokevirtual 135, 3, (37, 3, 3), [2])),
  (84, [], (.goto 55, 3, (0, 0, 0), [8])),
  (87, [(.aload_n 0, 1, 0, 0), (.getfield 18, 3, 3, 3), (.iload_n 2, 1, 0, 0), (.aload_n 0, 1, 0, 0), (.getfield 18, 3, 3, 3), (.iload_n 2, 1, 0, 0), (.iaload, 1, 0, 0), (.iload_n 3, 1, 0, 0), (.invokestatic 138, 3, 2, 0), (.iastore, 1, 0, 0)], (.goto 36, 3, (0, 0, 0), [8])),
  (106, [(.aload_n 0, 1, 0, 0), (.getfield 15, 3, 3, 2), (.iload_n 2, 1, 0, 0), (.dup2, 1, 0, 0), (.iaload, 1, 0, 0), (.iconst 1, 1, 0, 0), (.iload_n 3, 1, 0, 0), (.ishl, 1, 0, 0), (.iand, 1, 0, 0), (.iastore, 1, 0, 0)], (.goto 21, 3, (0, 0, 0), [8])),
  (121, [(.aload_n 0, 1, 0, 0), (.iload_n 2, 1, 0, 0), (.iconst 1, 1, 0, 0), (.iload_n 3, 1, 0, 0), (.ishl, 1, 0, 0)], (.invokevirtual 143, 3, (38, 3, 3), [6])),
  (129, [], (.goto 10, 3, (0, 0, 0), [8])),
  (132, [(.aload_n 0, 1, 0, 0), (.iload_n 1, 1, 0, 0), (.iload_n 2, 1, 0, 0), (.iload_n 3, 1, 0, 0)], (.invokevirtual 146, 3, (33, 4, 3), [8])),
  (139, [], (.return_, 1, (0, 0, 0), []))])
def am_X3_keepPair : ab_M := (6, [], [
  (0, [(.iconst 0, 1, 0, 0), (.istore 4, 2, 0, 0)], (.nop, 0, (0, 0, 0), [1])),
  (3, [(.iload 4, 2, 0, 0), (.aload_n 0, 1, 0, 0), (.getfield 46, 3, 3, 0), (.getfield 94, 3, 6, 2)], (.if_icmp .ge 87, 3, (0, 0, 0), [11, 2])),
  (15, [(.iconst 0, 1, 0, 0), (.istore 5, 2, 0, 0)], (.nop, 0, (0, 0, 0), [3])),
  (18, [(.iload 5, 2, 0, 0), (.aload_n 0, 1, 0, 0), (.getfield 46, 3, 3, 0), (.getfield 94, 3, 6, 2)], (.if_icmp .ge 66, 3, (0, 0, 0), [10, 4])),
  (30, [(.aload_n 0, 1, 0, 0), (.getfield 46, 3, 3, 0), (.iload_n 1, 1, 0, 0), (.iload 4, 2, 0, 0), (.iload 5, 2, 0, 0)], (.invokevirtual 150, 3, (72, 4, 6), [5])),
  (42, [], (.ifCond .ne 45, 3, (0, 0, 0), [9, 6])),
  (45, [(.aload_n 0, 1, 0, 0), (.getfield 21, 3, 3, 4), (.iload_n 2, 1, 0, 0), (.iload 4, 2, 0, 0), (.iload_n 3, 1, 0, 0)], (.invokestatic 100, 3, (27, 3, 200), [7])),
  (56, [(.dup2, 1, 0, 0), (.iaload, 1, 0, 0), (.iconst 1, 1, 0, 0), (.iload 5, 2, 0, 0), (.ishl, 1, 0, 0), (.iconst (-1), 1, 0, 0), (.ixor, 1, 0, 0), (.iand, 1, 0, 0), (.iastore, 1, 0, 0), (.aload_n 0, 1, 0, 0), (.getfield 21, 3, 3, 4), (.iload_n 3, 1, 0, 0), (.iload 5, 2, 0, 0), (.iload_n 2, 1, 0, 0)], (.invokestatic 100, 3, (27, 3, 200), [8])),
  (77, [(.dup2, 1, 0, 0), (.iaload, 1, 0, 0), (.iconst 1, 1, 0, 0), (.iload 4, 2, 0, 0), (.ishl, 1, 0, 0), (.iconst (-1), 1, 0, 0), (.ixor, 1, 0, 0), (.iand, 1, 0, 0), (.iastore, 1, 0, 0)], (.nop, 0, (0, 0, 0), [9])),
  (87, [(.iinc 5 1, 3, 0, 0)], (.goto (-72), 3, (0, 0, 0), [3])),
  (93, [(.iinc 4 1, 3, 0, 0)], (.goto (-93), 3, (0, 0, 0), [1])),
  (99, [], (.return_, 1, (0, 0, 0), []))])
def am_X3_keepRooms : ab_M := (5, [], [
  (0, [(.aload_n 0, 1, 0, 0), (.getfield 15, 3, 3, 2), (.iload_n 1, 1, 0, 0), (.iaload, 1, 0, 0), (.aload_n 0, 1, 0, 0), (.getfield 15, 3, 3, 2), (.iload_n 2, 1, 0, 0), (.iaload, 1, 0, 0)], (.if_icmp .ne 16, 3, (0, 0, 0), [3, 1])),
  (15, [(.aload_n 0, 1, 0, 0), (.getfield 15, 3, 3, 2), (.iload_n 1, 1, 0, 0), (.iaload, 1, 0, 0)], (.invokestatic 154, 3, (277, 1, 200), [2])),
  (24, [(.iconst 1, 1, 0, 0)], (.if_icmp .eq 4, 3, (0, 0, 0), [4, 3])),
  (28, [], (.return_, 1, (0, 0, 0), [])),
  (29, [(.iconst 0, 1, 0, 0), (.istore_n 3, 1, 0, 0)], (.nop, 0, (0, 0, 0), [5])),
  (31, [(.iload_n 3, 1, 0, 0), (.aload_n 0, 1, 0, 0), (.getfield 46, 3, 3, 0), (.getfield 94, 3, 6, 2)], (.if_icmp .ge 97, 3, (0, 0, 0), [14, 6])),
  (42, [(.iconst 0, 1, 0, 0), (.istore 4, 2, 0, 0)], (.nop, 0, (0, 0, 0), [7])),
  (45, [(.iload 4, 2, 0, 0), (.aload_n 0, 1, 0, 0), (.getfield 46, 3, 3, 0), (.getfield 94, 3, 6, 2)], (.if_icmp .ge 76, 3, (0, 0, 0), [13, 8])),
  (57, [(.aload_n 0, 1, 0, 0), (.getfield 27, 3, 3, 6), (.iload_n 1, 1, 0, 0), (.bipush 6, 2, 0, 0), (.imul, 1, 0, 0), (.iload_n 3, 1, 0, 0), (.iadd, 1, 0, 0), (.iaload, 1, 0, 0), (.aload_n 0, 1, 0, 0), (.getfield 27, 3, 3, 6), (.iload_n 2, 1, 0, 0), (.bipush 6, 2, 0, 0), (.imul, 1, 0, 0), (.iload 4, 2, 0, 0), (.iadd, 1, 0, 0), (.iaload, 1, 0, 0), (.iand, 1, 0, 0)], (.ifCond .eq 43, 3, (0, 0, 0), [12, 9])),
  (84, [(.aload_n 0, 1, 0, 0), (.getfield 21, 3, 3, 4), (.iload_n 1, 1, 0, 0), (.iload_n 3, 1, 0, 0), (.iload_n 2, 1, 0, 0)], (.invokestatic 100, 3, (27, 3, 200), [10])),
  (94, [(.dup2, 1, 0, 0), (.iaload, 1, 0, 0), (.iconst 1, 1, 0, 0), (.iload 4, 2, 0, 0), (.ishl, 1, 0, 0), (.iconst (-1), 1, 0, 0), (.ixor, 1, 0, 0), (.iand, 1, 0, 0), (.iastore, 1, 0, 0), (.aload_n 0, 1, 0, 0), (.getfield 21, 3, 3, 4), (.iload_n 2, 1, 0, 0), (.iload 4, 2, 0, 0), (.iload_n 1, 1, 0, 0)], (.invokestatic 100, 3, (27, 3, 200), [11])),
  (115, [(.dup2, 1, 0, 0), (.iaload, 1, 0, 0), (.iconst 1, 1, 0, 0), (.iload_n 3, 1, 0, 0), (.ishl, 1, 0, 0), (.iconst (-1), 1, 0, 0), (.ixor, 1, 0, 0), (.iand, 1, 0, 0), (.iastore, 1, 0, 0)], (.nop, 0, (0, 0, 0), [12])),
  (124, [(.iinc 4 1, 3, 0, 0)], (.goto (-82), 3, (0, 0, 0), [7])),
  (130, [(.iinc 3 1, 3, 0, 0)], (.goto (-102), 3, (0, 0, 0), [5])),
  (136, [], (.return_, 1, (0, 0, 0), []))])
def am_X3_dropLonelyStarts : ab_M := (4, [], [
  (0, [(.iconst 0, 1, 0, 0), (.istore_n 1, 1, 0, 0), (.iconst 0, 1, 0, 0), (.istore_n 2, 1, 0, 0)], (.nop, 0, (0, 0, 0), [1])),
  (4, [(.iload_n 2, 1, 0, 0), (.aload_n 0, 1, 0, 0), (.getfield 46, 3, 3, 0), (.getfield 70, 3, 6, 6)], (.if_icmp .ge 66, 3, (0, 0, 0), [10, 2])),
  (15, [(.iconst 0, 1, 0, 0), (.istore_n 3, 1, 0, 0)], (.nop, 0, (0, 0, 0), [3])),
  (17, [(.iload_n 3, 1, 0, 0), (.aload_n 0, 1, 0, 0), (.getfield 46, 3, 3, 0), (.getfield 94, 3, 6, 2)], (.if_icmp .ge 47, 3, (0, 0, 0), [9, 4])),
  (28, [(.aload_n 0, 1, 0, 0), (.getfield 9, 3, 3, 1), (.iload_n 2, 1, 0, 0), (.iaload, 1, 0, 0), (.iload_n 3, 1, 0, 0), (.ishr, 1, 0, 0), (.iconst 1, 1, 0, 0), (.iand, 1, 0, 0)], (.ifCond .eq 28, 3, (0, 0, 0), [8, 5])),
  (41, [(.aload_n 0, 1, 0, 0), (.iload_n 2, 1, 0, 0), (.iload_n 3, 1, 0, 0)], (.invokevirtual 160, 3, (36, 3, 3), [6])),
  (47, [], (.ifCond .eq 19, 3, (0, 0, 0), [8, 7])),
  (50, [(.aload_n 0, 1, 0, 0), (.getfield 9, 3, 3, 1), (.iload_n 2, 1, 0, 0), (.dup2, 1, 0, 0), (.iaload, 1, 0, 0), (.iconst 1, 1, 0, 0), (.iload_n 3, 1, 0, 0), (.ishl, 1, 0, 0), (.iconst (-1), 1, 0, 0), (.ixor, 1, 0, 0), (.iand, 1, 0, 0), (.iastore, 1, 0, 0), (.iconst 1, 1, 0, 0), (.istore_n 1, 1, 0, 0)], (.nop, 0, (0, 0, 0), [8])),
  (66, [(.iinc 3 1, 3, 0, 0)], (.goto (-52), 3, (0, 0, 0), [3])),
  (72, [(.iinc 2 1, 3, 0, 0)], (.goto (-71), 3, (0, 0, 0), [1])),
  (78, [(.iload_n 1, 1, 0, 0)], (.ireturn, 1, (1, 0, 0), []))])
def am_X3_isLonelyStart : ab_M := (4, [], [
  (0, [(.iconst 0, 1, 0, 0), (.istore_n 3, 1, 0, 0)], (.nop, 0, (0, 0, 0), [1])),
  (2, [(.iload_n 3, 1, 0, 0), (.aload_n 0, 1, 0, 0), (.getfield 46, 3, 3, 0), (.getfield 70, 3, 6, 6)], (.if_icmp .ge 37, 3, (0, 0, 0), [7, 2])),
  (13, [(.iload_n 3, 1, 0, 0), (.iload_n 1, 1, 0, 0)], (.if_icmp .eq 26, 3, (0, 0, 0), [6, 3])),
  (18, [(.aload_n 0, 1, 0, 0), (.getfield 21, 3, 3, 4), (.iload_n 1, 1, 0, 0), (.iload_n 2, 1, 0, 0), (.iload_n 3, 1, 0, 0)], (.invokestatic 100, 3, (27, 3, 200), [4])),
  (28, [(.iaload, 1, 0, 0), (.aload_n 0, 1, 0, 0), (.getfield 9, 3, 3, 1), (.iload_n 3, 1, 0, 0), (.iaload, 1, 0, 0), (.iand, 1, 0, 0)], (.ifCond .ne 5, 3, (0, 0, 0), [6, 5])),
  (39, [(.iconst 1, 1, 0, 0)], (.ireturn, 1, (1, 0, 0), [])),
  (41, [(.iinc 3 1, 3, 0, 0)], (.goto (-42), 3, (0, 0, 0), [1])),
  (47, [(.iconst 0, 1, 0, 0)], (.ireturn, 1, (1, 0, 0), []))])
def am_X3_barLesson : ab_M := (4, [], [
  (0, [(.iconst 0, 1, 0, 0), (.istore_n 3, 1, 0, 0)], (.nop, 0, (0, 0, 0), [1])),
  (2, [(.iload_n 3, 1, 0, 0), (.aload_n 0, 1, 0, 0), (.getfield 46, 3, 3, 0), (.getfield 94, 3, 6, 2)], (.if_icmp .ge 39, 3, (0, 0, 0), [5, 2])),
  (13, [(.aload_n 0, 1, 0, 0), (.getfield 27, 3, 3, 6), (.iload_n 1, 1, 0, 0), (.bipush 6, 2, 0, 0), (.imul, 1, 0, 0), (.iload_n 3, 1, 0, 0), (.iadd, 1, 0, 0), (.iaload, 1, 0, 0), (.iload_n 2, 1, 0, 0), (.iand, 1, 0, 0)], (.ifCond .eq 17, 3, (0, 0, 0), [4, 3])),
  (29, [(.aload_n 0, 1, 0, 0), (.getfield 9, 3, 3, 1), (.iload_n 1, 1, 0, 0), (.dup2, 1, 0, 0), (.iaload, 1, 0, 0), (.iconst 1, 1, 0, 0), (.iload_n 3, 1, 0, 0), (.ishl, 1, 0, 0), (.iconst (-1), 1, 0, 0), (.ixor, 1, 0, 0), (.iand, 1, 0, 0), (.iastore, 1, 0, 0)], (.nop, 0, (0, 0, 0), [4])),
  (43, [(.iinc 3 1, 3, 0, 0)], (.goto (-44), 3, (0, 0, 0), [1])),
  (49, [], (.return_, 1, (0, 0, 0), []))])
def am_X3_barTeacher : ab_M := (4, [], [
  (0, [(.iconst 0, 1, 0, 0), (.istore_n 3, 1, 0, 0)], (.nop, 0, (0, 0, 0), [1])),
  (2, [(.iload_n 3, 1, 0, 0), (.aload_n 0, 1, 0, 0), (.getfield 46, 3, 3, 0), (.getfield 70, 3, 6, 6)], (.if_icmp .ge 28, 3, (0, 0, 0), [5, 2])),
  (13, [(.aload_n 0, 1, 0, 0), (.getfield 46, 3, 3, 0), (.getfield 163, 3, 6, 13), (.iload_n 3, 1, 0, 0), (.iaload, 1, 0, 0), (.iload_n 1, 1, 0, 0)], (.if_icmp .ne 9, 3, (0, 0, 0), [4, 3])),
  (26, [(.aload_n 0, 1, 0, 0), (.iload_n 3, 1, 0, 0), (.iload_n 2, 1, 0, 0)], (.invokevirtual 135, 3, (37, 3, 3), [4])),
  (32, [(.iinc 3 1, 3, 0, 0)], (.goto (-33), 3, (0, 0, 0), [1])),
  (38, [], (.return_, 1, (0, 0, 0), []))])
def am_X3_allow : ab_M := (4, [], [
  (0, [(.aload_n 0, 1, 0, 0), (.getfield 9, 3, 3, 1), (.iload_n 1, 1, 0, 0), (.iload_n 2, 1, 0, 0), (.iastore, 1, 0, 0), (.aload_n 0, 1, 0, 0), (.getfield 15, 3, 3, 2), (.iload_n 1, 1, 0, 0), (.iload_n 3, 1, 0, 0), (.iastore, 1, 0, 0), (.aload_n 0, 1, 0, 0), (.iload_n 1, 1, 0, 0)], (.invokevirtual 166, 3, (43, 2, 3), [1])),
  (19, [], (.return_, 1, (0, 0, 0), []))])
def am_X3_costWeights : ab_M := (4, [], [
  (0, [(.aload_n 0, 1, 0, 0), (.iconst 1, 1, 0, 0), (.putfield 40, 3, 3, 10), (.iconst 0, 1, 0, 0), (.istore_n 1, 1, 0, 0)], (.nop, 0, (0, 0, 0), [1])),
  (7, [(.iload_n 1, 1, 0, 0), (.aload_n 0, 1, 0, 0), (.getfield 46, 3, 3, 0), (.getfield 70, 3, 6, 6)], (.if_icmp .ge 73, 3, (0, 0, 0), [12, 2])),
  (18, [(.iconst 0, 1, 0, 0), (.istore_n 2, 1, 0, 0)], (.nop, 0, (0, 0, 0), [3])),
  (20, [(.iload_n 2, 1, 0, 0), (.aload_n 0, 1, 0, 0), (.getfield 46, 3, 3, 0), (.getfield 94, 3, 6, 2)], (.if_icmp .ge 49, 3, (0, 0, 0), [10, 4])),
  (31, [(.iconst 0, 1, 0, 0), (.istore_n 3, 1, 0, 0)], (.nop, 0, (0, 0, 0), [5])),
  (33, [(.iload_n 3, 1, 0, 0), (.aload_n 0, 1, 0, 0), (.getfield 46, 3, 3, 0), (.getfield 120, 3, 6, 5)], (.if_icmp .ge 30, 3, (0, 0, 0), [9, 6])),
  (44, [(.aload_n 0, 1, 0, 0), (.getfield 30, 3, 3, 7), (.iload_n 1, 1, 0, 0), (.iload_n 2, 1, 0, 0), (.iload_n 3, 1, 0, 0)], (.invokestatic 169, 3, (28, 3, 200), [7])),
  (54, [(.aload_n 0, 1, 0, 0), (.getfield 46, 3, 3, 0), (.iload_n 1, 1, 0, 0), (.iload_n 2, 1, 0, 0), (.iload_n 3, 1, 0, 0)], (.invokevirtual 172, 3, (68, 4, 6), [8])),
  (64, [(.iastore, 1, 0, 0), (.iinc 3 1, 3, 0, 0)], (.goto (-35), 3, (0, 0, 0), [5])),
  (71, [(.iinc 2 1, 3, 0, 0)], (.goto (-54), 3, (0, 0, 0), [3])),
  (77, [(.aload_n 0, 1, 0, 0), (.iload_n 1, 1, 0, 0)], (.invokevirtual 166, 3, (43, 2, 3), [11])),
  (82, [(.iinc 1 1, 3, 0, 0)], (.goto (-78), 3, (0, 0, 0), [1])),
  (88, [], (.return_, 1, (0, 0, 0), []))])
def am_X3_costChanges : ab_M := (6, [], [
  (0, [(.aload_n 0, 1, 0, 0), (.iconst 2, 1, 0, 0), (.putfield 40, 3, 3, 10), (.iconst 0, 1, 0, 0), (.istore_n 2, 1, 0, 0)], (.nop, 0, (0, 0, 0), [1])),
  (7, [(.iload_n 2, 1, 0, 0), (.aload_n 0, 1, 0, 0), (.getfield 46, 3, 3, 0), (.getfield 70, 3, 6, 6)], (.if_icmp .ge 104, 3, (0, 0, 0), [18, 2])),
  (18, [(.iconst 0, 1, 0, 0), (.istore_n 3, 1, 0, 0)], (.nop, 0, (0, 0, 0), [3])),
  (20, [(.iload_n 3, 1, 0, 0), (.aload_n 0, 1, 0, 0), (.getfield 46, 3, 3, 0), (.getfield 94, 3, 6, 2)], (.if_icmp .ge 80, 3, (0, 0, 0), [16, 4])),
  (31, [(.iconst 0, 1, 0, 0), (.istore 4, 2, 0, 0)], (.nop, 0, (0, 0, 0), [5])),
  (34, [(.iload 4, 2, 0, 0), (.aload_n 0, 1, 0, 0), (.getfield 46, 3, 3, 0), (.getfield 120, 3, 6, 5)], (.if_icmp .ge 59, 3, (0, 0, 0), [15, 6])),
  (46, [(.iload_n 3, 1, 0, 0), (.aload_n 1, 1, 0, 0), (.getfield 175, 3, 9, 2), (.iload_n 2, 1, 0, 0), (.iaload, 1, 0, 0)], (.if_icmp .ne 18, 3, (0, 0, 0), [9, 7])),
  (56, [(.iload 4, 2, 0, 0), (.aload_n 1, 1, 0, 0), (.getfield 180, 3, 9, 3), (.iload_n 2, 1, 0, 0), (.iaload, 1, 0, 0)], (.if_icmp .ne 7, 3, (0, 0, 0), [9, 8])),
  (67, [(.iconst 1, 1, 0, 0)], (.goto 4, 3, (0, 0, 0), [10])),
  (71, [(.iconst 0, 1, 0, 0)], (.nop, 0, (0, 0, 0), [10])),
  (72, [(.istore 5, 2, 0, 0), (.aload_n 0, 1, 0, 0), (.getfield 30, 3, 3, 7), (.iload_n 2, 1, 0, 0), (.iload_n 3, 1, 0, 0), (.iload 4, 2, 0, 0)], (.invokestatic 169, 3, (28, 3, 200), [11])),
  (85, [(.iload 5, 2, 0, 0)], (.ifCond .eq 7, 3, (0, 0, 0), [13, 12])),
  (90, [(.iconst 0, 1, 0, 0)], (.goto 4, 3, (0, 0, 0), [14])),
  (94, [(.iconst 1, 1, 0, 0)], (.nop, 0, (0, 0, 0), [14])),
  (95, [(.iastore, 1, 0, 0), (.iinc 4 1, 3, 0, 0)], (.goto (-65), 3, (0, 0, 0), [5])),
  (102, [(.iinc 3 1, 3, 0, 0)], (.goto (-85), 3, (0, 0, 0), [3])),
  (108, [(.aload_n 0, 1, 0, 0), (.iload_n 2, 1, 0, 0)], (.invokevirtual 166, 3, (43, 2, 3), [17])),
  (113, [(.iinc 2 1, 3, 0, 0)], (.goto (-109), 3, (0, 0, 0), [1])),
  (119, [], (.return_, 1, (0, 0, 0), []))])
def am_X3_costShares : ab_M := (1, [], [
  (0, [(.aload_n 0, 1, 0, 0), (.iconst 3, 1, 0, 0), (.putfield 40, 3, 3, 10)], (.return_, 1, (0, 0, 0), []))])
def am_X3_price : ab_M := (5, [], [
  (0, [(.iconst 0, 1, 0, 0), (.istore_n 2, 1, 0, 0)], (.nop, 0, (0, 0, 0), [1])),
  (2, [(.iload_n 2, 1, 0, 0), (.aload_n 0, 1, 0, 0), (.getfield 46, 3, 3, 0), (.getfield 94, 3, 6, 2)], (.if_icmp .ge 86, 3, (0, 0, 0), [12, 2])),
  (13, [(.ldc 185, 2, 100000, 0), (.istore_n 3, 1, 0, 0), (.iconst 0, 1, 0, 0), (.istore 4, 2, 0, 0)], (.nop, 0, (0, 0, 0), [3])),
  (19, [(.iload 4, 2, 0, 0), (.aload_n 0, 1, 0, 0), (.getfield 46, 3, 3, 0), (.getfield 120, 3, 6, 5)], (.if_icmp .ge 40, 3, (0, 0, 0), [8, 4])),
  (31, [(.aload_n 0, 1, 0, 0), (.getfield 15, 3, 3, 2), (.iload_n 1, 1, 0, 0), (.iaload, 1, 0, 0), (.iload 4, 2, 0, 0), (.ishr, 1, 0, 0), (.iconst 1, 1, 0, 0), (.iand, 1, 0, 0)], (.ifCond .eq 20, 3, (0, 0, 0), [7, 5])),
  (45, [(.iload_n 3, 1, 0, 0), (.aload_n 0, 1, 0, 0), (.getfield 30, 3, 3, 7), (.iload_n 1, 1, 0, 0), (.iload_n 2, 1, 0, 0), (.iload 4, 2, 0, 0)], (.invokestatic 169, 3, (28, 3, 200), [6])),
  (57, [(.iaload, 1, 0, 0), (.invokestatic 138, 3, 2, 0), (.istore_n 3, 1, 0, 0)], (.nop, 0, (0, 0, 0), [7])),
  (62, [(.iinc 4 1, 3, 0, 0)], (.goto (-46), 3, (0, 0, 0), [3])),
  (68, [(.aload_n 0, 1, 0, 0), (.getfield 33, 3, 3, 8), (.iload_n 1, 1, 0, 0), (.bipush 6, 2, 0, 0), (.imul, 1, 0, 0), (.iload_n 2, 1, 0, 0), (.iadd, 1, 0, 0), (.iload_n 3, 1, 0, 0), (.ldc 185, 2, 100000, 0)], (.if_icmp .ne 7, 3, (0, 0, 0), [10, 9])),
  (84, [(.iconst 0, 1, 0, 0)], (.goto 4, 3, (0, 0, 0), [11])),
  (88, [(.iload_n 3, 1, 0, 0)], (.nop, 0, (0, 0, 0), [11])),
  (89, [(.iastore, 1, 0, 0), (.iinc 2 1, 3, 0, 0)], (.goto (-91), 3, (0, 0, 0), [1])),
  (96, [], (.return_, 1, (0, 0, 0), []))])
def am_X4_init : ab_M := (3, [], [
  (0, [(.aload_n 0, 1, 0, 0), (.invokespecial 1, 3, 0, 0), (.aload_n 0, 1, 0, 0), (.new 7, 3, 9, 0), (.dup, 1, 0, 0)], (.invokespecial 9, 3, (97, 1, 101), [1])),
  (12, [(.putfield 10, 3, 4, 2), (.aload_n 0, 1, 0, 0), (.new 7, 3, 9, 0), (.dup, 1, 0, 0)], (.invokespecial 9, 3, (97, 1, 101), [2])),
  (23, [(.putfield 16, 3, 4, 3), (.aload_n 0, 1, 0, 0), (.iconst 4, 1, 0, 0), (.newarray .int, 2, 0, 0), (.putfield 19, 3, 4, 4), (.aload_n 0, 1, 0, 0), (.iconst 0, 1, 0, 0), (.putfield 23, 3, 4, 5), (.aload_n 0, 1, 0, 0), (.aload_n 1, 1, 0, 0), (.putfield 27, 3, 4, 0), (.aload_n 0, 1, 0, 0), (.aload_n 2, 1, 0, 0), (.putfield 31, 3, 4, 1)], (.return_, 1, (0, 0, 0), []))])
def am_X4_moveOne : ab_M := (5, [], [
  (0, [(.aload_n 0, 1, 0, 0), (.getfield 31, 3, 4, 1), (.aload_n 1, 1, 0, 0)], (.invokevirtual 35, 3, (22, 2, 2), [1])),
  (8, [(.istore_n 2, 1, 0, 0), (.aload_n 0, 1, 0, 0), (.iload_n 2, 1, 0, 0), (.putfield 23, 3, 4, 5), (.aload_n 0, 1, 0, 0), (.getfield 16, 3, 4, 3), (.aload_n 1, 1, 0, 0)], (.invokevirtual 41, 3, (99, 2, 9), [2])),
  (22, [(.iconst 2, 1, 0, 0), (.istore_n 3, 1, 0, 0)], (.nop, 0, (0, 0, 0), [3])),
  (24, [(.iload_n 3, 1, 0, 0), (.iconst 4, 1, 0, 0)], (.if_icmp .gt 45, 3, (0, 0, 0), [9, 4])),
  (29, [(.iconst 0, 1, 0, 0), (.istore 4, 2, 0, 0)], (.nop, 0, (0, 0, 0), [5])),
  (32, [(.iload 4, 2, 0, 0), (.aload_n 0, 1, 0, 0), (.getfield 27, 3, 4, 0), (.getfield 45, 3, 6, 6)], (.if_icmp .ge 24, 3, (0, 0, 0), [8, 6])),
  (44, [(.aload_n 0, 1, 0, 0), (.getfield 19, 3, 4, 4), (.iconst 0, 1, 0, 0), (.iload 4, 2, 0, 0), (.iastore, 1, 0, 0), (.aload_n 0, 1, 0, 0), (.aload_n 1, 1, 0, 0), (.iconst 1, 1, 0, 0), (.iload_n 3, 1, 0, 0)], (.invokevirtual 50, 3, (46, 4, 4), [7])),
  (59, [(.iinc 4 1, 3, 0, 0)], (.goto (-30), 3, (0, 0, 0), [5])),
  (65, [(.iinc 3 1, 3, 0, 0)], (.goto (-44), 3, (0, 0, 0), [3])),
  (71, [(.aload_n 1, 1, 0, 0), (.aload_n 0, 1, 0, 0), (.getfield 16, 3, 4, 3)], (.invokevirtual 41, 3, (99, 2, 9), [10])),
  (79, [(.iload_n 2, 1, 0, 0), (.aload_n 0, 1, 0, 0), (.getfield 23, 3, 4, 5), (.isub, 1, 0, 0)], (.ireturn, 1, (0, 0, 0), []))])
def am_X4_extend : ab_M := (5, [], [
  (0, [(.iload_n 2, 1, 0, 0), (.iload_n 3, 1, 0, 0)], (.if_icmp .ge 8, 3, (0, 0, 0), [2, 1])),
  (5, [(.iload_n 2, 1, 0, 0), (.iconst 4, 1, 0, 0)], (.if_icmp .lt 10, 3, (0, 0, 0), [4, 2])),
  (10, [(.aload_n 0, 1, 0, 0), (.aload_n 1, 1, 0, 0), (.iload_n 2, 1, 0, 0)], (.invokevirtual 54, 3, (48, 3, 4), [3])),
  (16, [], (.return_, 1, (0, 0, 0), [])),
  (17, [(.aload_n 0, 1, 0, 0), (.getfield 19, 3, 4, 4), (.iconst 0, 1, 0, 0), (.iaload, 1, 0, 0), (.iconst 1, 1, 0, 0), (.iadd, 1, 0, 0), (.istore 4, 2, 0, 0)], (.nop, 0, (0, 0, 0), [5])),
  (27, [(.iload 4, 2, 0, 0), (.aload_n 0, 1, 0, 0), (.getfield 27, 3, 4, 0), (.getfield 45, 3, 6, 6)], (.if_icmp .ge 63, 3, (0, 0, 0), [11, 6])),
  (39, [(.aload_n 0, 1, 0, 0), (.getfield 27, 3, 4, 0), (.getfield 58, 3, 6, 14), (.iload 4, 2, 0, 0), (.iaload, 1, 0, 0), (.aload_n 0, 1, 0, 0), (.getfield 27, 3, 4, 0), (.getfield 58, 3, 6, 14), (.aload_n 0, 1, 0, 0), (.getfield 19, 3, 4, 4), (.iconst 0, 1, 0, 0), (.iaload, 1, 0, 0), (.iaload, 1, 0, 0)], (.if_icmp .ne 30, 3, (0, 0, 0), [10, 7])),
  (66, [(.aload_n 0, 1, 0, 0), (.iload 4, 2, 0, 0), (.iload_n 2, 1, 0, 0)], (.invokevirtual 61, 3, (47, 3, 4), [8])),
  (73, [], (.ifCond .ne 20, 3, (0, 0, 0), [10, 9])),
  (76, [(.aload_n 0, 1, 0, 0), (.getfield 19, 3, 4, 4), (.iload_n 2, 1, 0, 0), (.iload 4, 2, 0, 0), (.iastore, 1, 0, 0), (.aload_n 0, 1, 0, 0), (.aload_n 1, 1, 0, 0), (.iload_n 2, 1, 0, 0), (.iconst 1, 1, 0, 0), (.iadd, 1, 0, 0), (.iload_n 3, 1, 0, 0)], (.invokevirtual 50, 3, (46, 4, 4), [10])),
  (93, [(.iinc 4 1, 3, 0, 0)], (.goto (-69), 3, (0, 0, 0), [5])),
  (99, [], (.return_, 1, (0, 0, 0), []))])
def am_X4_isIn : ab_M := (4, [], [
  (0, [(.iconst 0, 1, 0, 0), (.istore_n 3, 1, 0, 0)], (.nop, 0, (0, 0, 0), [1])),
  (2, [(.iload_n 3, 1, 0, 0), (.iload_n 2, 1, 0, 0)], (.if_icmp .ge 21, 3, (0, 0, 0), [5, 2])),
  (7, [(.aload_n 0, 1, 0, 0), (.getfield 19, 3, 4, 4), (.iload_n 3, 1, 0, 0), (.iaload, 1, 0, 0), (.iload_n 1, 1, 0, 0)], (.if_icmp .ne 5, 3, (0, 0, 0), [4, 3])),
  (17, [(.iconst 1, 1, 0, 0)], (.ireturn, 1, (1, 0, 0), [])),
  (19, [(.iinc 3 1, 3, 0, 0)], (.goto (-20), 3, (0, 0, 0), [1])),
  (25, [(.iconst 0, 1, 0, 0)], (.ireturn, 1, (1, 0, 0), []))])
def am_X4_weigh : ab_M := (5, [], [
  (0, [(.aload_n 0, 1, 0, 0), (.getfield 10, 3, 4, 2), (.aload_n 1, 1, 0, 0)], (.invokevirtual 41, 3, (99, 2, 9), [1])),
  (8, [(.iconst 0, 1, 0, 0), (.istore_n 3, 1, 0, 0)], (.nop, 0, (0, 0, 0), [2])),
  (10, [(.iload_n 3, 1, 0, 0), (.iload_n 2, 1, 0, 0)], (.if_icmp .ge 72, 3, (0, 0, 0), [7, 3])),
  (15, [(.aload_n 0, 1, 0, 0), (.getfield 19, 3, 4, 4), (.iload_n 3, 1, 0, 0), (.iconst 1, 1, 0, 0), (.iadd, 1, 0, 0), (.iload_n 2, 1, 0, 0)], (.if_icmp .ge 9, 3, (0, 0, 0), [5, 4])),
  (26, [(.iload_n 3, 1, 0, 0), (.iconst 1, 1, 0, 0), (.iadd, 1, 0, 0)], (.goto 4, 3, (0, 0, 0), [6])),
  (32, [(.iconst 0, 1, 0, 0)], (.nop, 0, (0, 0, 0), [6])),
  (33, [(.iaload, 1, 0, 0), (.istore 4, 2, 0, 0), (.aload_n 0, 1, 0, 0), (.getfield 10, 3, 4, 2), (.getfield 65, 3, 9, 2), (.aload_n 0, 1, 0, 0), (.getfield 19, 3, 4, 4), (.iload_n 3, 1, 0, 0), (.iaload, 1, 0, 0), (.aload_n 1, 1, 0, 0), (.getfield 65, 3, 9, 2), (.iload 4, 2, 0, 0), (.iaload, 1, 0, 0), (.iastore, 1, 0, 0), (.aload_n 0, 1, 0, 0), (.getfield 10, 3, 4, 2), (.getfield 68, 3, 9, 3), (.aload_n 0, 1, 0, 0), (.getfield 19, 3, 4, 4), (.iload_n 3, 1, 0, 0), (.iaload, 1, 0, 0), (.aload_n 1, 1, 0, 0), (.getfield 68, 3, 9, 3), (.iload 4, 2, 0, 0), (.iaload, 1, 0, 0), (.iastore, 1, 0, 0), (.iinc 3 1, 3, 0, 0)], (.goto (-71), 3, (0, 0, 0), [2])),
  (84, [(.aload_n 0, 1, 0, 0), (.getfield 31, 3, 4, 1), (.aload_n 0, 1, 0, 0), (.getfield 10, 3, 4, 2)], (.invokevirtual 35, 3, (22, 2, 2), [8])),
  (95, [(.istore_n 3, 1, 0, 0), (.iload_n 3, 1, 0, 0), (.aload_n 0, 1, 0, 0), (.getfield 23, 3, 4, 5)], (.if_icmp .ge 47, 3, (0, 0, 0), [14, 9])),
  (104, [(.aload_n 0, 1, 0, 0), (.getfield 31, 3, 4, 1), (.aload_n 0, 1, 0, 0), (.getfield 10, 3, 4, 2)], (.invokevirtual 71, 3, (13, 2, 2), [10])),
  (115, [], (.ifCond .ne 33, 3, (0, 0, 0), [14, 11])),
  (118, [(.aload_n 0, 1, 0, 0), (.getfield 31, 3, 4, 1), (.aload_n 0, 1, 0, 0), (.getfield 10, 3, 4, 2)], (.invokevirtual 74, 3, (15, 2, 2), [12])),
  (129, [], (.ifCond .ne 19, 3, (0, 0, 0), [14, 13])),
  (132, [(.aload_n 0, 1, 0, 0), (.iload_n 3, 1, 0, 0), (.putfield 23, 3, 4, 5), (.aload_n 0, 1, 0, 0), (.getfield 16, 3, 4, 3), (.aload_n 0, 1, 0, 0), (.getfield 10, 3, 4, 2)], (.invokevirtual 41, 3, (99, 2, 9), [14])),
  (148, [], (.return_, 1, (0, 0, 0), []))])
def am_X5_init : ab_M := (5, [], [
  (0, [(.aload_n 0, 1, 0, 0), (.invokespecial 3, 3, 0, 0), (.aload_n 0, 1, 0, 0), (.sipush 252, 3, 0, 0), (.newarray .int, 2, 0, 0), (.putfield 11, 3, 5, 4), (.aload_n 0, 1, 0, 0), (.iconst 0, 1, 0, 0), (.putfield 15, 3, 5, 5), (.aload_n 0, 1, 0, 0), (.bipush 64, 2, 0, 0), (.newarray .int, 2, 0, 0), (.putfield 19, 3, 5, 6), (.aload_n 0, 1, 0, 0), (.iconst 0, 1, 0, 0), (.putfield 22, 3, 5, 7), (.aload_n 0, 1, 0, 0), (.iconst (-1), 1, 0, 0), (.putfield 25, 3, 5, 8), (.aload_n 0, 1, 0, 0), (.aload_n 1, 1, 0, 0), (.putfield 28, 3, 5, 0), (.aload_n 0, 1, 0, 0), (.aload_n 2, 1, 0, 0), (.putfield 32, 3, 5, 1), (.aload_n 0, 1, 0, 0), (.aload_n 3, 1, 0, 0), (.putfield 36, 3, 5, 2), (.aload_n 0, 1, 0, 0), (.aload 4, 2, 0, 0), (.putfield 40, 3, 5, 3)], (.return_, 1, (0, 0, 0), []))])
def am_X5_keepable : ab_M := (4, [], [
  (0, [(.aload_n 0, 1, 0, 0), (.getfield 36, 3, 5, 2), (.iload_n 1, 1, 0, 0)], (.invokevirtual 44, 3, (26, 2, 3), [1])),
  (8, [(.iload_n 2, 1, 0, 0), (.iconst (-1), 1, 0, 0)], (.if_icmp .eq 19, 3, (0, 0, 0), [4, 2])),
  (13, [(.aload_n 0, 1, 0, 0), (.getfield 36, 3, 5, 2), (.iload_n 2, 1, 0, 0), (.aload_n 0, 1, 0, 0), (.getfield 28, 3, 5, 0), (.iload_n 3, 1, 0, 0)], (.invokevirtual 50, 3, (60, 2, 6), [3])),
  (26, [], (.invokevirtual 56, 3, (38, 3, 3), [4])),
  (29, [(.aload_n 0, 1, 0, 0), (.getfield 40, 3, 5, 3), (.iconst 0, 1, 0, 0), (.iconst 0, 1, 0, 0)], (.invokevirtual 60, 3, (74, 3, 7), [5])),
  (38, [(.iconst (-1), 1, 0, 0)], (.if_icmp .eq 7, 3, (0, 0, 0), [7, 6])),
  (42, [(.iconst 1, 1, 0, 0)], (.goto 4, 3, (0, 0, 0), [8])),
  (46, [(.iconst 0, 1, 0, 0)], (.nop, 0, (0, 0, 0), [8])),
  (47, [], (.ireturn, 1, (1, 0, 0), []))])
def am_X5_stubborn : ab_M := (6, [], [
  (0, [(.aload_n 0, 1, 0, 0), (.getfield 28, 3, 5, 0)], (.invokevirtual 66, 3, (56, 1, 6), [1])),
  (7, [(.istore_n 3, 1, 0, 0), (.aload_n 0, 1, 0, 0), (.iload_n 3, 1, 0, 0), (.iload_n 1, 1, 0, 0), (.iload_n 2, 1, 0, 0)], (.invokevirtual 70, 3, (50, 4, 5), [2])),
  (15, [], (.ifCond .eq 5, 3, (0, 0, 0), [4, 3])),
  (18, [(.iconst (-1), 1, 0, 0)], (.ireturn, 1, (0, 0, 0), [])),
  (20, [(.aload_n 0, 1, 0, 0), (.getfield 28, 3, 5, 0), (.getfield 74, 3, 6, 7), (.iconst 1, 1, 0, 0), (.isub, 1, 0, 0), (.istore 4, 2, 0, 0)], (.nop, 0, (0, 0, 0), [5])),
  (31, [(.iload 4, 2, 0, 0)], (.ifCond .lt 33, 3, (0, 0, 0), [10, 6])),
  (36, [(.iload_n 3, 1, 0, 0), (.iconst 1, 1, 0, 0), (.iload 4, 2, 0, 0), (.ishl, 1, 0, 0), (.iconst (-1), 1, 0, 0), (.ixor, 1, 0, 0), (.iand, 1, 0, 0), (.istore 5, 2, 0, 0), (.aload_n 0, 1, 0, 0), (.iload 5, 2, 0, 0), (.iload_n 1, 1, 0, 0), (.iload_n 2, 1, 0, 0)], (.invokevirtual 70, 3, (50, 4, 5), [7])),
  (54, [], (.ifCond .ne 6, 3, (0, 0, 0), [9, 8])),
  (57, [(.iload 5, 2, 0, 0), (.istore_n 3, 1, 0, 0)], (.nop, 0, (0, 0, 0), [9])),
  (60, [(.iinc 4 (-1), 3, 0, 0)], (.goto (-32), 3, (0, 0, 0), [5])),
  (66, [(.iload_n 3, 1, 0, 0)], (.ireturn, 1, (0, 0, 0), []))])
def am_X5_refresh : ab_M := (4, [], [
  (0, [(.aload_n 0, 1, 0, 0), (.getfield 25, 3, 5, 8), (.aload_n 0, 1, 0, 0), (.getfield 28, 3, 5, 0), (.getfield 77, 3, 6, 8)], (.if_icmp .ne 4, 3, (0, 0, 0), [2, 1])),
  (14, [], (.return_, 1, (0, 0, 0), [])),
  (15, [(.aload_n 0, 1, 0, 0), (.aload_n 0, 1, 0, 0), (.getfield 28, 3, 5, 0), (.getfield 77, 3, 6, 8), (.putfield 25, 3, 5, 8), (.aload_n 0, 1, 0, 0), (.iconst 0, 1, 0, 0), (.putfield 15, 3, 5, 5), (.aload_n 0, 1, 0, 0), (.iconst 0, 1, 0, 0), (.putfield 22, 3, 5, 7), (.aload_n 0, 1, 0, 0), (.getfield 28, 3, 5, 0)], (.invokevirtual 66, 3, (56, 1, 6), [3])),
  (43, [(.istore_n 1, 1, 0, 0), (.aload_n 0, 1, 0, 0), (.iload_n 1, 1, 0, 0)], (.invokevirtual 80, 3, (53, 2, 5), [4])),
  (49, [], (.ifCond .eq 4, 3, (0, 0, 0), [6, 5])),
  (52, [], (.return_, 1, (0, 0, 0), [])),
  (53, [(.iconst 0, 1, 0, 0), (.istore_n 2, 1, 0, 0)], (.nop, 0, (0, 0, 0), [7])),
  (55, [(.iload_n 2, 1, 0, 0), (.aload_n 0, 1, 0, 0), (.getfield 28, 3, 5, 0), (.getfield 74, 3, 6, 7)], (.if_icmp .gt 75, 3, (0, 0, 0), [19, 8])),
  (66, [(.aload_n 0, 1, 0, 0), (.getfield 15, 3, 5, 5)], (.ifCond .ne 68, 3, (0, 0, 0), [19, 9])),
  (73, [(.iconst 0, 1, 0, 0), (.istore_n 3, 1, 0, 0)], (.nop, 0, (0, 0, 0), [10])),
  (75, [(.iload_n 3, 1, 0, 0), (.iload_n 1, 1, 0, 0)], (.if_icmp .gt 55, 3, (0, 0, 0), [18, 11])),
  (80, [(.iload_n 3, 1, 0, 0)], (.invokestatic 84, 3, (277, 1, 200), [12])),
  (84, [(.iload_n 2, 1, 0, 0)], (.if_icmp .ne 41, 3, (0, 0, 0), [17, 13])),
  (88, [(.aload_n 0, 1, 0, 0), (.getfield 15, 3, 5, 5), (.sipush 252, 3, 0, 0)], (.if_icmp .ge 31, 3, (0, 0, 0), [17, 14])),
  (98, [(.aload_n 0, 1, 0, 0), (.iload_n 3, 1, 0, 0)], (.invokevirtual 80, 3, (53, 2, 5), [15])),
  (103, [], (.ifCond .ne 23, 3, (0, 0, 0), [17, 16])),
  (106, [(.aload_n 0, 1, 0, 0), (.getfield 11, 3, 5, 4), (.aload_n 0, 1, 0, 0), (.getfield 15, 3, 5, 5), (.iload_n 3, 1, 0, 0), (.iastore, 1, 0, 0), (.aload_n 0, 1, 0, 0), (.dup, 1, 0, 0), (.getfield 15, 3, 5, 5), (.iconst 1, 1, 0, 0), (.iadd, 1, 0, 0), (.putfield 15, 3, 5, 5)], (.nop, 0, (0, 0, 0), [17])),
  (126, [(.iinc 3 1, 3, 0, 0)], (.goto (-54), 3, (0, 0, 0), [10])),
  (132, [(.iinc 2 1, 3, 0, 0)], (.goto (-80), 3, (0, 0, 0), [7])),
  (138, [], (.return_, 1, (0, 0, 0), []))])
def am_X5_isKept : ab_M := (3, [], [
  (0, [(.iconst 0, 1, 0, 0), (.istore_n 2, 1, 0, 0)], (.nop, 0, (0, 0, 0), [1])),
  (2, [(.iload_n 2, 1, 0, 0), (.aload_n 0, 1, 0, 0), (.getfield 22, 3, 5, 7)], (.if_icmp .ge 24, 3, (0, 0, 0), [5, 2])),
  (10, [(.iload_n 1, 1, 0, 0), (.aload_n 0, 1, 0, 0), (.getfield 19, 3, 5, 6), (.iload_n 2, 1, 0, 0), (.iaload, 1, 0, 0), (.iconst (-1), 1, 0, 0), (.ixor, 1, 0, 0), (.iand, 1, 0, 0)], (.ifCond .ne 5, 3, (0, 0, 0), [4, 3])),
  (23, [(.iconst 1, 1, 0, 0)], (.ireturn, 1, (1, 0, 0), [])),
  (25, [(.iinc 2 1, 3, 0, 0)], (.goto (-26), 3, (0, 0, 0), [1])),
  (31, [(.aload_n 0, 1, 0, 0), (.getfield 36, 3, 5, 2), (.iload_n 1, 1, 0, 0)], (.invokevirtual 44, 3, (26, 2, 3), [6])),
  (39, [(.aload_n 0, 1, 0, 0), (.getfield 40, 3, 5, 3), (.iconst 0, 1, 0, 0), (.iconst 0, 1, 0, 0)], (.invokevirtual 60, 3, (74, 3, 7), [7])),
  (48, [(.iconst (-1), 1, 0, 0)], (.if_icmp .ne 5, 3, (0, 0, 0), [9, 8])),
  (52, [(.iconst 0, 1, 0, 0)], (.ireturn, 1, (1, 0, 0), [])),
  (54, [(.aload_n 0, 1, 0, 0), (.getfield 22, 3, 5, 7), (.aload_n 0, 1, 0, 0), (.getfield 19, 3, 5, 6), (.arraylength, 1, 0, 0)], (.if_icmp .ge 46, 3, (0, 0, 0), [13, 10])),
  (66, [(.aload_n 0, 1, 0, 0), (.getfield 19, 3, 5, 6), (.aload_n 0, 1, 0, 0), (.getfield 22, 3, 5, 7), (.aload_n 0, 1, 0, 0), (.getfield 28, 3, 5, 0)], (.invokevirtual 66, 3, (56, 1, 6), [11])),
  (81, [(.aload_n 0, 1, 0, 0), (.getfield 32, 3, 5, 1), (.aload_n 0, 1, 0, 0), (.getfield 40, 3, 5, 3), (.getfield 89, 3, 7, 2)], (.invokevirtual 93, 3, (15, 2, 2), [12])),
  (95, [(.iconst (-1), 1, 0, 0), (.ixor, 1, 0, 0), (.iand, 1, 0, 0), (.iastore, 1, 0, 0), (.aload_n 0, 1, 0, 0), (.dup, 1, 0, 0), (.getfield 22, 3, 5, 7), (.iconst 1, 1, 0, 0), (.iadd, 1, 0, 0), (.putfield 22, 3, 5, 7)], (.nop, 0, (0, 0, 0), [13])),
  (109, [(.iconst 1, 1, 0, 0)], (.ireturn, 1, (1, 0, 0), []))])
def am_X6_init : ab_M := (1, [], [
  (0, [(.aload_n 0, 1, 0, 0), (.invokespecial 3, 3, 0, 0), (.aload_n 0, 1, 0, 0), (.iconst 2, 1, 0, 0), (.putfield 9, 3, 6, 0), (.aload_n 0, 1, 0, 0), (.iconst 3, 1, 0, 0), (.putfield 15, 3, 6, 1), (.aload_n 0, 1, 0, 0), (.bipush 6, 2, 0, 0), (.putfield 18, 3, 6, 2), (.aload_n 0, 1, 0, 0), (.iconst 0, 1, 0, 0), (.putfield 21, 3, 6, 3), (.aload_n 0, 1, 0, 0), (.iconst 0, 1, 0, 0), (.putfield 24, 3, 6, 4), (.aload_n 0, 1, 0, 0), (.iconst 0, 1, 0, 0), (.putfield 27, 3, 6, 5), (.aload_n 0, 1, 0, 0), (.iconst 0, 1, 0, 0), (.putfield 30, 3, 6, 6), (.aload_n 0, 1, 0, 0), (.iconst 0, 1, 0, 0), (.putfield 33, 3, 6, 7), (.aload_n 0, 1, 0, 0), (.iconst 0, 1, 0, 0), (.putfield 36, 3, 6, 8), (.aload_n 0, 1, 0, 0), (.iconst 4, 1, 0, 0), (.newarray .int, 2, 0, 0), (.putfield 39, 3, 6, 9), (.aload_n 0, 1, 0, 0), (.iconst 4, 1, 0, 0), (.newarray .int, 2, 0, 0), (.putfield 43, 3, 6, 10), (.aload_n 0, 1, 0, 0), (.iconst 3, 1, 0, 0), (.newarray .int, 2, 0, 0), (.putfield 46, 3, 6, 11), (.aload_n 0, 1, 0, 0), (.bipush 6, 2, 0, 0), (.newarray .int, 2, 0, 0), (.putfield 49, 3, 6, 12), (.aload_n 0, 1, 0, 0), (.bipush 6, 2, 0, 0), (.newarray .int, 2, 0, 0), (.putfield 52, 3, 6, 13), (.aload_n 0, 1, 0, 0), (.bipush 6, 2, 0, 0), (.newarray .int, 2, 0, 0), (.putfield 55, 3, 6, 14), (.aload_n 0, 1, 0, 0), (.bipush 10, 2, 0, 0), (.newarray .int, 2, 0, 0), (.putfield 58, 3, 6, 15), (.aload_n 0, 1, 0, 0), (.bipush 10, 2, 0, 0), (.newarray .int, 2, 0, 0), (.putfield 61, 3, 6, 16), (.aload_n 0, 1, 0, 0), (.bipush 10, 2, 0, 0), (.newarray .int, 2, 0, 0), (.putfield 64, 3, 6, 17), (.aload_n 0, 1, 0, 0), (.iconst 3, 1, 0, 0), (.newarray .int, 2, 0, 0), (.dup, 1, 0, 0), (.iconst 0, 1, 0, 0), (.iconst 1, 1, 0, 0), (.iastore, 1, 0, 0), (.dup, 1, 0, 0), (.iconst 1, 1, 0, 0), (.iconst 1, 1, 0, 0), (.iastore, 1, 0, 0), (.dup, 1, 0, 0), (.iconst 2, 1, 0, 0), (.iconst 1, 1, 0, 0), (.iastore, 1, 0, 0), (.putfield 67, 3, 6, 18)], (.return_, 1, (0, 0, 0), []))])
def am_X6_allSlots : ab_M := (1, [], [
  (0, [(.iconst 1, 1, 0, 0), (.aload_n 0, 1, 0, 0), (.getfield 18, 3, 6, 2), (.ishl, 1, 0, 0), (.iconst 1, 1, 0, 0), (.isub, 1, 0, 0)], (.ireturn, 1, (0, 0, 0), []))])
def am_X6_allRules : ab_M := (1, [], [
  (0, [(.iconst 1, 1, 0, 0), (.aload_n 0, 1, 0, 0), (.getfield 33, 3, 6, 7), (.ishl, 1, 0, 0), (.iconst 1, 1, 0, 0), (.isub, 1, 0, 0)], (.ireturn, 1, (0, 0, 0), []))])
def am_X6_areLessons : ab_M := (2, [], [
  (0, [(.iload_n 1, 1, 0, 0)], (.ifCond .lt 17, 3, (0, 0, 0), [3, 1])),
  (4, [(.iload_n 1, 1, 0, 0), (.iconst 1, 1, 0, 0), (.aload_n 0, 1, 0, 0), (.getfield 30, 3, 6, 6), (.ishl, 1, 0, 0)], (.if_icmp .ge 7, 3, (0, 0, 0), [3, 2])),
  (14, [(.iconst 1, 1, 0, 0)], (.goto 4, 3, (0, 0, 0), [4])),
  (18, [(.iconst 0, 1, 0, 0)], (.nop, 0, (0, 0, 0), [4])),
  (19, [], (.ireturn, 1, (1, 0, 0), []))])
def am_X6_dayOf : ab_M := (2, [], [
  (0, [(.iload_n 1, 1, 0, 0), (.aload_n 0, 1, 0, 0), (.getfield 15, 3, 6, 1)], (.if_icmp .ge 7, 3, (0, 0, 0), [2, 1])),
  (8, [(.iconst 0, 1, 0, 0)], (.goto 4, 3, (0, 0, 0), [3])),
  (12, [(.iconst 1, 1, 0, 0)], (.nop, 0, (0, 0, 0), [3])),
  (13, [], (.ireturn, 1, (0, 0, 0), []))])
def am_X6_hourOf : ab_M := (2, [], [
  (0, [(.iload_n 1, 1, 0, 0), (.aload_n 0, 1, 0, 0), (.getfield 15, 3, 6, 1)], (.if_icmp .ge 7, 3, (0, 0, 0), [2, 1])),
  (8, [(.iload_n 1, 1, 0, 0)], (.goto 9, 3, (0, 0, 0), [3])),
  (12, [(.iload_n 1, 1, 0, 0), (.aload_n 0, 1, 0, 0), (.getfield 15, 3, 6, 1), (.isub, 1, 0, 0)], (.nop, 0, (0, 0, 0), [3])),
  (18, [], (.ireturn, 1, (0, 0, 0), []))])
def am_X6_dayMask : ab_M := (2, [], [
  (0, [(.iconst 1, 1, 0, 0), (.aload_n 0, 1, 0, 0), (.getfield 15, 3, 6, 1), (.ishl, 1, 0, 0), (.iconst 1, 1, 0, 0), (.isub, 1, 0, 0), (.iload_n 1, 1, 0, 0), (.aload_n 0, 1, 0, 0), (.getfield 15, 3, 6, 1), (.imul, 1, 0, 0), (.ishl, 1, 0, 0)], (.ireturn, 1, (0, 0, 0), []))])
def am_X6_lastHours : ab_M := (3, [], [
  (0, [(.iconst 0, 1, 0, 0), (.istore_n 1, 1, 0, 0), (.iconst 0, 1, 0, 0), (.istore_n 2, 1, 0, 0)], (.nop, 0, (0, 0, 0), [1])),
  (4, [(.iload_n 2, 1, 0, 0), (.aload_n 0, 1, 0, 0), (.getfield 9, 3, 6, 0)], (.if_icmp .ge 27, 3, (0, 0, 0), [3, 2])),
  (12, [(.iload_n 1, 1, 0, 0), (.iconst 1, 1, 0, 0), (.iload_n 2, 1, 0, 0), (.aload_n 0, 1, 0, 0), (.getfield 15, 3, 6, 1), (.imul, 1, 0, 0), (.aload_n 0, 1, 0, 0), (.getfield 15, 3, 6, 1), (.iadd, 1, 0, 0), (.iconst 1, 1, 0, 0), (.isub, 1, 0, 0), (.ishl, 1, 0, 0), (.ior, 1, 0, 0), (.istore_n 1, 1, 0, 0), (.iinc 2 1, 3, 0, 0)], (.goto (-29), 3, (0, 0, 0), [1])),
  (36, [(.iload_n 1, 1, 0, 0)], (.ireturn, 1, (0, 0, 0), []))])
def am_X6_lastSlot : ab_M := (3, [], [
  (0, [(.aload_n 0, 1, 0, 0), (.getfield 55, 3, 6, 14), (.iload_n 1, 1, 0, 0), (.iaload, 1, 0, 0), (.iconst 2, 1, 0, 0)], (.if_icmp .ne 19, 3, (0, 0, 0), [3, 1])),
  (10, [(.iload_n 2, 1, 0, 0), (.iconst 1, 1, 0, 0), (.iadd, 1, 0, 0), (.aload_n 0, 1, 0, 0), (.getfield 18, 3, 6, 2)], (.if_icmp .ge 9, 3, (0, 0, 0), [3, 2])),
  (20, [(.iload_n 2, 1, 0, 0), (.iconst 1, 1, 0, 0), (.iadd, 1, 0, 0)], (.goto 4, 3, (0, 0, 0), [4])),
  (26, [(.iload_n 2, 1, 0, 0)], (.nop, 0, (0, 0, 0), [4])),
  (27, [], (.ireturn, 1, (0, 0, 0), []))])
def am_X6_cover : ab_M := (4, [], [
  (0, [(.aload_n 0, 1, 0, 0), (.getfield 55, 3, 6, 14), (.iload_n 1, 1, 0, 0), (.iaload, 1, 0, 0), (.iconst 2, 1, 0, 0)], (.if_icmp .ne 17, 3, (0, 0, 0), [3, 1])),
  (10, [(.iload_n 2, 1, 0, 0), (.iconst 1, 1, 0, 0), (.iadd, 1, 0, 0), (.aload_n 0, 1, 0, 0), (.getfield 18, 3, 6, 2)], (.if_icmp .ge 7, 3, (0, 0, 0), [3, 2])),
  (20, [(.iconst 3, 1, 0, 0)], (.goto 4, 3, (0, 0, 0), [4])),
  (24, [(.iconst 1, 1, 0, 0)], (.nop, 0, (0, 0, 0), [4])),
  (25, [(.istore_n 3, 1, 0, 0), (.iload_n 3, 1, 0, 0), (.iload_n 2, 1, 0, 0), (.ishl, 1, 0, 0)], (.ireturn, 1, (0, 0, 0), []))])
def am_X6_staysInDay : ab_M := (3, [], [
  (0, [(.aload_n 0, 1, 0, 0), (.getfield 55, 3, 6, 14), (.iload_n 1, 1, 0, 0), (.iaload, 1, 0, 0), (.iconst 1, 1, 0, 0)], (.if_icmp .eq 17, 3, (0, 0, 0), [3, 1])),
  (10, [(.aload_n 0, 1, 0, 0), (.iload_n 2, 1, 0, 0)], (.invokevirtual 70, 3, (59, 2, 6), [2])),
  (15, [(.iconst 1, 1, 0, 0), (.iadd, 1, 0, 0), (.aload_n 0, 1, 0, 0), (.getfield 15, 3, 6, 1)], (.if_icmp .ge 7, 3, (0, 0, 0), [4, 3])),
  (24, [(.iconst 1, 1, 0, 0)], (.goto 4, 3, (0, 0, 0), [5])),
  (28, [(.iconst 0, 1, 0, 0)], (.nop, 0, (0, 0, 0), [5])),
  (29, [], (.ireturn, 1, (1, 0, 0), []))])
def am_X6_hasSeats : ab_M := (3, [], [
  (0, [(.aload_n 0, 1, 0, 0), (.getfield 46, 3, 6, 11), (.iload_n 2, 1, 0, 0), (.iaload, 1, 0, 0), (.aload_n 0, 1, 0, 0), (.getfield 39, 3, 6, 9), (.aload_n 0, 1, 0, 0), (.getfield 49, 3, 6, 12), (.iload_n 1, 1, 0, 0), (.iaload, 1, 0, 0), (.iaload, 1, 0, 0)], (.if_icmp .lt 7, 3, (0, 0, 0), [2, 1])),
  (20, [(.iconst 1, 1, 0, 0)], (.goto 4, 3, (0, 0, 0), [3])),
  (24, [(.iconst 0, 1, 0, 0)], (.nop, 0, (0, 0, 0), [3])),
  (25, [], (.ireturn, 1, (1, 0, 0), []))])
def am_X6_shareClass : ab_M := (3, [], [
  (0, [(.aload_n 0, 1, 0, 0), (.getfield 49, 3, 6, 12), (.iload_n 1, 1, 0, 0), (.iaload, 1, 0, 0), (.aload_n 0, 1, 0, 0), (.getfield 49, 3, 6, 12), (.iload_n 2, 1, 0, 0), (.iaload, 1, 0, 0)], (.if_icmp .ne 7, 3, (0, 0, 0), [2, 1])),
  (15, [(.iconst 1, 1, 0, 0)], (.goto 4, 3, (0, 0, 0), [3])),
  (19, [(.iconst 0, 1, 0, 0)], (.nop, 0, (0, 0, 0), [3])),
  (20, [], (.ireturn, 1, (1, 0, 0), []))])
def am_X6_shareTeacher : ab_M := (3, [], [
  (0, [(.aload_n 0, 1, 0, 0), (.getfield 52, 3, 6, 13), (.iload_n 1, 1, 0, 0), (.iaload, 1, 0, 0), (.aload_n 0, 1, 0, 0), (.getfield 52, 3, 6, 13), (.iload_n 2, 1, 0, 0), (.iaload, 1, 0, 0)], (.if_icmp .ne 7, 3, (0, 0, 0), [2, 1])),
  (15, [(.iconst 1, 1, 0, 0)], (.goto 4, 3, (0, 0, 0), [3])),
  (19, [(.iconst 0, 1, 0, 0)], (.nop, 0, (0, 0, 0), [3])),
  (20, [], (.ireturn, 1, (1, 0, 0), []))])
def am_X6_weightOfValue : ab_M := (6, [], [
  (0, [(.aload_n 0, 1, 0, 0), (.getfield 43, 3, 6, 10), (.aload_n 0, 1, 0, 0), (.getfield 49, 3, 6, 12), (.iload_n 1, 1, 0, 0), (.iaload, 1, 0, 0), (.iaload, 1, 0, 0), (.istore 4, 2, 0, 0), (.iload 4, 2, 0, 0), (.iconst (-1), 1, 0, 0)], (.if_icmp .eq 13, 3, (0, 0, 0), [3, 1])),
  (19, [(.iload 4, 2, 0, 0), (.iload_n 3, 1, 0, 0)], (.if_icmp .eq 7, 3, (0, 0, 0), [3, 2])),
  (25, [(.iconst 1, 1, 0, 0)], (.goto 4, 3, (0, 0, 0), [4])),
  (29, [(.iconst 0, 1, 0, 0)], (.nop, 0, (0, 0, 0), [4])),
  (30, [(.istore 5, 2, 0, 0), (.aload_n 0, 1, 0, 0), (.getfield 67, 3, 6, 18), (.iconst 0, 1, 0, 0), (.iaload, 1, 0, 0), (.aload_n 0, 1, 0, 0), (.aload_n 0, 1, 0, 0), (.iload_n 1, 1, 0, 0), (.iload_n 2, 1, 0, 0)], (.invokevirtual 74, 3, (62, 3, 6), [5])),
  (45, [], (.invokevirtual 70, 3, (59, 2, 6), [6])),
  (48, [(.imul, 1, 0, 0), (.iload 5, 2, 0, 0)], (.ifCond .eq 12, 3, (0, 0, 0), [8, 7])),
  (54, [(.aload_n 0, 1, 0, 0), (.getfield 67, 3, 6, 18), (.iconst 1, 1, 0, 0), (.iaload, 1, 0, 0)], (.goto 4, 3, (0, 0, 0), [9])),
  (63, [(.iconst 0, 1, 0, 0)], (.nop, 0, (0, 0, 0), [9])),
  (64, [(.iadd, 1, 0, 0)], (.ireturn, 1, (0, 0, 0), []))])
def am_X6_hasRuleWithSlot : ab_M := (2, [], [
  (0, [(.iconst 0, 1, 0, 0), (.istore_n 1, 1, 0, 0)], (.nop, 0, (0, 0, 0), [1])),
  (2, [(.iload_n 1, 1, 0, 0), (.aload_n 0, 1, 0, 0), (.getfield 33, 3, 6, 7)], (.if_icmp .ge 31, 3, (0, 0, 0), [6, 2])),
  (10, [(.aload_n 0, 1, 0, 0), (.getfield 58, 3, 6, 15), (.iload_n 1, 1, 0, 0), (.iaload, 1, 0, 0)], (.ifCond .eq 14, 3, (0, 0, 0), [4, 3])),
  (19, [(.aload_n 0, 1, 0, 0), (.getfield 58, 3, 6, 15), (.iload_n 1, 1, 0, 0), (.iaload, 1, 0, 0), (.bipush 7, 2, 0, 0)], (.if_icmp .ne 5, 3, (0, 0, 0), [5, 4])),
  (30, [(.iconst 1, 1, 0, 0)], (.ireturn, 1, (1, 0, 0), [])),
  (32, [(.iinc 1 1, 3, 0, 0)], (.goto (-33), 3, (0, 0, 0), [1])),
  (38, [(.iconst 0, 1, 0, 0)], (.ireturn, 1, (1, 0, 0), []))])
def am_X6_canBeRule : ab_M := (4, [], [
  (0, [(.iload_n 1, 1, 0, 0)], (.ifCond .lt 17, 3, (0, 0, 0), [4, 1])),
  (4, [(.iload_n 1, 1, 0, 0), (.bipush 7, 2, 0, 0)], (.if_icmp .gt 11, 3, (0, 0, 0), [4, 2])),
  (10, [(.iload_n 2, 1, 0, 0)], (.ifCond .lt 7, 3, (0, 0, 0), [4, 3])),
  (14, [(.iload_n 3, 1, 0, 0)], (.ifCond .ge 5, 3, (0, 0, 0), [5, 4])),
  (18, [(.iconst 0, 1, 0, 0)], (.ireturn, 1, (1, 0, 0), [])),
  (20, [(.iload_n 2, 1, 0, 0), (.iload_n 1, 1, 0, 0), (.iconst 1, 1, 0, 0)], (.if_icmp .eq 9, 3, (0, 0, 0), [7, 6])),
  (26, [(.iload_n 1, 1, 0, 0), (.bipush 7, 2, 0, 0)], (.if_icmp .ne 10, 3, (0, 0, 0), [8, 7])),
  (32, [(.aload_n 0, 1, 0, 0), (.getfield 24, 3, 6, 4)], (.goto 7, 3, (0, 0, 0), [9])),
  (39, [(.aload_n 0, 1, 0, 0), (.getfield 30, 3, 6, 6)], (.nop, 0, (0, 0, 0), [9])),
  (43, [], (.if_icmp .lt 5, 3, (0, 0, 0), [11, 10])),
  (46, [(.iconst 0, 1, 0, 0)], (.ireturn, 1, (1, 0, 0), [])),
  (48, [(.iload_n 1, 1, 0, 0)], (.tableswitch 86 0 7 #[47, 61, 86, 86, 86, 86, 72, 47], 47, (0, 0, 0), [12, 16, 24, 24, 24, 24, 20, 12, 24])),
  (96, [(.iload_n 3, 1, 0, 0), (.aload_n 0, 1, 0, 0), (.getfield 18, 3, 6, 2)], (.if_icmp .ge 7, 3, (0, 0, 0), [14, 13])),
  (104, [(.iconst 1, 1, 0, 0)], (.goto 4, 3, (0, 0, 0), [15])),
  (108, [(.iconst 0, 1, 0, 0)], (.nop, 0, (0, 0, 0), [15])),
  (109, [], (.ireturn, 1, (1, 0, 0), [])),
  (110, [(.iload_n 3, 1, 0, 0), (.iconst 3, 1, 0, 0)], (.if_icmp .gt 7, 3, (0, 0, 0), [18, 17])),
  (115, [(.iconst 1, 1, 0, 0)], (.goto 4, 3, (0, 0, 0), [19])),
  (119, [(.iconst 0, 1, 0, 0)], (.nop, 0, (0, 0, 0), [19])),
  (120, [], (.ireturn, 1, (1, 0, 0), [])),
  (121, [(.iload_n 3, 1, 0, 0), (.aload_n 0, 1, 0, 0), (.getfield 27, 3, 6, 5)], (.if_icmp .ge 7, 3, (0, 0, 0), [22, 21])),
  (129, [(.iconst 1, 1, 0, 0)], (.goto 4, 3, (0, 0, 0), [23])),
  (133, [(.iconst 0, 1, 0, 0)], (.nop, 0, (0, 0, 0), [23])),
  (134, [], (.ireturn, 1, (1, 0, 0), [])),
  (135, [(.iload_n 3, 1, 0, 0), (.aload_n 0, 1, 0, 0), (.getfield 30, 3, 6, 6)], (.if_icmp .ge 12, 3, (0, 0, 0), [27, 25])),
  (143, [(.iload_n 2, 1, 0, 0), (.iload_n 3, 1, 0, 0)], (.if_icmp .eq 7, 3, (0, 0, 0), [27, 26])),
  (148, [(.iconst 1, 1, 0, 0)], (.goto 4, 3, (0, 0, 0), [28])),
  (152, [(.iconst 0, 1, 0, 0)], (.nop, 0, (0, 0, 0), [28])),
  (153, [], (.ireturn, 1, (1, 0, 0), []))])
def am_X6_pairKept : ab_M := (6, [], [
  (0, [(.aload_n 0, 1, 0, 0), (.aload_n 0, 1, 0, 0), (.getfield 61, 3, 6, 16), (.iload_n 1, 1, 0, 0), (.iaload, 1, 0, 0), (.iload_n 2, 1, 0, 0)], (.invokevirtual 74, 3, (62, 3, 6), [1])),
  (11, [(.istore 4, 2, 0, 0), (.aload_n 0, 1, 0, 0), (.getfield 58, 3, 6, 15), (.iload_n 1, 1, 0, 0), (.iaload, 1, 0, 0)], (.tableswitch 67 2 4 #[25, 36, 55], 25, (0, 0, 0), [2, 6, 12, 16])),
  (44, [(.iload_n 2, 1, 0, 0), (.iload_n 3, 1, 0, 0)], (.if_icmp .ne 7, 3, (0, 0, 0), [4, 3])),
  (49, [(.iconst 1, 1, 0, 0)], (.goto 4, 3, (0, 0, 0), [5])),
  (53, [(.iconst 0, 1, 0, 0)], (.nop, 0, (0, 0, 0), [5])),
  (54, [], (.ireturn, 1, (1, 0, 0), [])),
  (55, [(.aload_n 0, 1, 0, 0), (.iload_n 2, 1, 0, 0)], (.invokevirtual 78, 3, (58, 2, 6), [7])),
  (60, [(.aload_n 0, 1, 0, 0), (.iload_n 3, 1, 0, 0)], (.invokevirtual 78, 3, (58, 2, 6), [8])),
  (65, [], (.if_icmp .eq 7, 3, (0, 0, 0), [10, 9])),
  (68, [(.iconst 1, 1, 0, 0)], (.goto 4, 3, (0, 0, 0), [11])),
  (72, [(.iconst 0, 1, 0, 0)], (.nop, 0, (0, 0, 0), [11])),
  (73, [], (.ireturn, 1, (1, 0, 0), [])),
  (74, [(.iload 4, 2, 0, 0), (.iload_n 3, 1, 0, 0)], (.if_icmp .ge 7, 3, (0, 0, 0), [14, 13])),
  (80, [(.iconst 1, 1, 0, 0)], (.goto 4, 3, (0, 0, 0), [15])),
  (84, [(.iconst 0, 1, 0, 0)], (.nop, 0, (0, 0, 0), [15])),
  (85, [], (.ireturn, 1, (1, 0, 0), [])),
  (86, [(.aload_n 0, 1, 0, 0), (.aload_n 0, 1, 0, 0), (.getfield 64, 3, 6, 17), (.iload_n 1, 1, 0, 0), (.iaload, 1, 0, 0), (.iload_n 3, 1, 0, 0)], (.invokevirtual 74, 3, (62, 3, 6), [17])),
  (97, [(.istore 5, 2, 0, 0), (.aload_n 0, 1, 0, 0), (.iload_n 2, 1, 0, 0)], (.invokevirtual 78, 3, (58, 2, 6), [18])),
  (104, [(.aload_n 0, 1, 0, 0), (.iload_n 3, 1, 0, 0)], (.invokevirtual 78, 3, (58, 2, 6), [19])),
  (109, [], (.if_icmp .ne 23, 3, (0, 0, 0), [23, 20])),
  (112, [(.iload_n 3, 1, 0, 0), (.iload 4, 2, 0, 0), (.iconst 1, 1, 0, 0), (.iadd, 1, 0, 0)], (.if_icmp .eq 11, 3, (0, 0, 0), [22, 21])),
  (120, [(.iload_n 2, 1, 0, 0), (.iload 5, 2, 0, 0), (.iconst 1, 1, 0, 0), (.iadd, 1, 0, 0)], (.if_icmp .ne 7, 3, (0, 0, 0), [23, 22])),
  (128, [(.iconst 1, 1, 0, 0)], (.goto 4, 3, (0, 0, 0), [24])),
  (132, [(.iconst 0, 1, 0, 0)], (.nop, 0, (0, 0, 0), [24])),
  (133, [], (.ireturn, 1, (1, 0, 0), []))])
def am_X7_init : ab_M := (3, [], [
  (0, [(.aload_n 0, 1, 0, 0), (.invokespecial 3, 3, 0, 0), (.aload_n 0, 1, 0, 0), (.new 9, 3, 9, 0), (.dup, 1, 0, 0)], (.invokespecial 11, 3, (97, 1, 101), [1])),
  (12, [(.putfield 12, 3, 7, 2), (.aload_n 0, 1, 0, 0), (.bipush 42, 2, 0, 0), (.newarray .int, 2, 0, 0), (.putfield 18, 3, 7, 3), (.aload_n 0, 1, 0, 0), (.bipush 6, 2, 0, 0), (.newarray .int, 2, 0, 0), (.putfield 22, 3, 7, 4), (.aload_n 0, 1, 0, 0), (.bipush 6, 2, 0, 0), (.newarray .int, 2, 0, 0), (.putfield 25, 3, 7, 5), (.aload_n 0, 1, 0, 0), (.bipush 6, 2, 0, 0), (.newarray .int, 2, 0, 0), (.putfield 28, 3, 7, 6), (.aload_n 0, 1, 0, 0), (.iconst 4, 1, 0, 0), (.newarray .int, 2, 0, 0), (.putfield 31, 3, 7, 7), (.aload_n 0, 1, 0, 0), (.iconst 0, 1, 0, 0), (.putfield 34, 3, 7, 8), (.aload_n 0, 1, 0, 0), (.iconst 0, 1, 0, 0), (.putfield 38, 3, 7, 9), (.aload_n 0, 1, 0, 0), (.iconst (-1), 1, 0, 0), (.putfield 41, 3, 7, 10), (.aload_n 0, 1, 0, 0), (.iconst 0, 1, 0, 0), (.putfield 44, 3, 7, 11), (.aload_n 0, 1, 0, 0), (.aload_n 1, 1, 0, 0), (.putfield 48, 3, 7, 0), (.aload_n 0, 1, 0, 0), (.aload_n 2, 1, 0, 0), (.putfield 52, 3, 7, 1)], (.return_, 1, (0, 0, 0), []))])
def am_X7_seek : ab_M := (4, [], [
  (0, [(.aload_n 0, 1, 0, 0), (.iload_n 2, 1, 0, 0), (.putfield 44, 3, 7, 11), (.aload_n 0, 1, 0, 0), (.iload_n 1, 1, 0, 0), (.putfield 34, 3, 7, 8), (.aload_n 0, 1, 0, 0), (.iconst (-1), 1, 0, 0), (.putfield 41, 3, 7, 10), (.aload_n 0, 1, 0, 0), (.getfield 31, 3, 7, 7), (.iconst 0, 1, 0, 0)], (.invokestatic 56, 3, (278, 2, 200), [1])),
  (23, [(.iconst 0, 1, 0, 0), (.istore_n 3, 1, 0, 0)], (.nop, 0, (0, 0, 0), [2])),
  (25, [(.iload_n 3, 1, 0, 0), (.aload_n 0, 1, 0, 0), (.getfield 48, 3, 7, 0), (.getfield 62, 3, 6, 6)], (.if_icmp .ge 52, 3, (0, 0, 0), [8, 3])),
  (36, [(.aload_n 0, 1, 0, 0), (.getfield 18, 3, 7, 3), (.iload_n 3, 1, 0, 0), (.aload_n 0, 1, 0, 0), (.iload_n 3, 1, 0, 0), (.aload_n 0, 1, 0, 0), (.getfield 52, 3, 7, 1), (.getfield 67, 3, 3, 1), (.iload_n 3, 1, 0, 0), (.iaload, 1, 0, 0)], (.invokevirtual 72, 3, (82, 3, 7), [4])),
  (55, [(.iastore, 1, 0, 0), (.aload_n 0, 1, 0, 0), (.getfield 18, 3, 7, 3), (.iload_n 3, 1, 0, 0), (.iaload, 1, 0, 0)], (.ifCond .eq 15, 3, (0, 0, 0), [6, 5])),
  (65, [(.aload_n 0, 1, 0, 0), (.getfield 52, 3, 7, 1), (.getfield 76, 3, 3, 2), (.iload_n 3, 1, 0, 0), (.iaload, 1, 0, 0)], (.ifCond .ne 5, 3, (0, 0, 0), [7, 6])),
  (77, [(.iconst (-1), 1, 0, 0)], (.ireturn, 1, (0, 0, 0), [])),
  (79, [(.iinc 3 1, 3, 0, 0)], (.goto (-57), 3, (0, 0, 0), [2])),
  (85, [(.aload_n 0, 1, 0, 0), (.aload_n 0, 1, 0, 0), (.iconst 0, 1, 0, 0), (.iconst 0, 1, 0, 0)], (.invokevirtual 79, 3, (87, 3, 7), [9])),
  (92, [(.putfield 38, 3, 7, 9), (.aload_n 0, 1, 0, 0), (.iconst 0, 1, 0, 0), (.iconst 0, 1, 0, 0)], (.invokevirtual 82, 3, (80, 3, 7), [10])),
  (101, [(.pop, 1, 0, 0), (.aload_n 0, 1, 0, 0), (.getfield 41, 3, 7, 10)], (.ireturn, 1, (0, 0, 0), []))])
def am_X7_cheapest : ab_M := (2, [], [
  (0, [(.aload_n 0, 1, 0, 0), (.ldc 86, 2, 100000, 0), (.iconst 1, 1, 0, 0)], (.invokevirtual 87, 3, (74, 3, 7), [1])),
  (7, [(.istore_n 1, 1, 0, 0), (.iload_n 1, 1, 0, 0), (.iconst (-1), 1, 0, 0)], (.if_icmp .eq 8, 3, (0, 0, 0), [3, 2])),
  (13, [(.aload_n 0, 1, 0, 0), (.iload_n 1, 1, 0, 0)], (.invokevirtual 91, 3, (79, 2, 7), [3])),
  (18, [(.iload_n 1, 1, 0, 0)], (.ireturn, 1, (0, 0, 0), []))])
def am_X7_behind : ab_M := (6, [], [
  (0, [(.aload_n 0, 1, 0, 0), (.getfield 48, 3, 7, 0), (.getfield 62, 3, 6, 6), (.iconst 1, 1, 0, 0), (.isub, 1, 0, 0), (.istore_n 2, 1, 0, 0)], (.nop, 0, (0, 0, 0), [1])),
  (10, [(.iload_n 2, 1, 0, 0)], (.ifCond .lt 68, 3, (0, 0, 0), [9, 2])),
  (14, [(.aload_n 1, 1, 0, 0), (.getfield 95, 3, 9, 2), (.iload_n 2, 1, 0, 0), (.iaload, 1, 0, 0), (.istore_n 3, 1, 0, 0), (.iconst (-1), 1, 0, 0), (.aload_n 1, 1, 0, 0), (.getfield 98, 3, 9, 3), (.iload_n 2, 1, 0, 0), (.iaload, 1, 0, 0), (.iconst 1, 1, 0, 0), (.iadd, 1, 0, 0), (.ishl, 1, 0, 0), (.istore 4, 2, 0, 0), (.iconst (-1), 1, 0, 0), (.iload_n 3, 1, 0, 0), (.iconst 1, 1, 0, 0), (.iadd, 1, 0, 0), (.ishl, 1, 0, 0), (.istore 5, 2, 0, 0), (.aload_n 0, 1, 0, 0), (.aload_n 1, 1, 0, 0), (.iload_n 2, 1, 0, 0), (.iconst 1, 1, 0, 0), (.iload_n 3, 1, 0, 0), (.ishl, 1, 0, 0), (.iload 4, 2, 0, 0)], (.invokevirtual 101, 3, (77, 5, 7), [3])),
  (51, [], (.ifCond .ne 15, 3, (0, 0, 0), [6, 4])),
  (54, [(.aload_n 0, 1, 0, 0), (.aload_n 1, 1, 0, 0), (.iload_n 2, 1, 0, 0), (.iload 5, 2, 0, 0), (.iconst (-1), 1, 0, 0)], (.invokevirtual 101, 3, (77, 5, 7), [5])),
  (63, [], (.ifCond .eq 10, 3, (0, 0, 0), [8, 6])),
  (66, [(.aload_n 0, 1, 0, 0), (.iconst 0, 1, 0, 0)], (.invokevirtual 91, 3, (79, 2, 7), [7])),
  (71, [(.iconst 1, 1, 0, 0)], (.ireturn, 1, (1, 0, 0), [])),
  (73, [(.iinc 2 (-1), 3, 0, 0)], (.goto (-66), 3, (0, 0, 0), [1])),
  (79, [(.iconst 0, 1, 0, 0)], (.ireturn, 1, (1, 0, 0), []))])
def am_X7_existsBehind : ab_M := (6, [], [
  (0, [(.aload_n 0, 1, 0, 0), (.getfield 52, 3, 7, 1), (.aload_n 0, 1, 0, 0), (.getfield 48, 3, 7, 0)], (.invokevirtual 105, 3, (56, 1, 6), [1])),
  (11, [], (.invokevirtual 109, 3, (26, 2, 3), [2])),
  (14, [(.iconst 0, 1, 0, 0), (.istore 5, 2, 0, 0)], (.nop, 0, (0, 0, 0), [3])),
  (17, [(.iload 5, 2, 0, 0), (.iload_n 2, 1, 0, 0)], (.if_icmp .ge 33, 3, (0, 0, 0), [6, 4])),
  (23, [(.aload_n 0, 1, 0, 0), (.iload 5, 2, 0, 0), (.iconst 1, 1, 0, 0), (.aload_n 1, 1, 0, 0), (.getfield 95, 3, 9, 2), (.iload 5, 2, 0, 0), (.iaload, 1, 0, 0), (.ishl, 1, 0, 0), (.iconst 1, 1, 0, 0), (.aload_n 1, 1, 0, 0), (.getfield 98, 3, 9, 3), (.iload 5, 2, 0, 0), (.iaload, 1, 0, 0), (.ishl, 1, 0, 0)], (.invokevirtual 112, 3, (78, 4, 7), [5])),
  (47, [(.iinc 5 1, 3, 0, 0)], (.goto (-33), 3, (0, 0, 0), [3])),
  (53, [(.aload_n 0, 1, 0, 0), (.iload_n 2, 1, 0, 0), (.iload_n 3, 1, 0, 0), (.iload 4, 2, 0, 0)], (.invokevirtual 112, 3, (78, 4, 7), [7])),
  (61, [(.aload_n 0, 1, 0, 0), (.iconst 0, 1, 0, 0), (.iconst 0, 1, 0, 0)], (.invokevirtual 87, 3, (74, 3, 7), [8])),
  (67, [(.iconst (-1), 1, 0, 0)], (.if_icmp .eq 7, 3, (0, 0, 0), [10, 9])),
  (71, [(.iconst 1, 1, 0, 0)], (.goto 4, 3, (0, 0, 0), [11])),
  (75, [(.iconst 0, 1, 0, 0)], (.nop, 0, (0, 0, 0), [11])),
  (76, [], (.ireturn, 1, (1, 0, 0), []))])
def am_X7_restrict : ab_M := (4, [], [
  (0, [(.aload_n 0, 1, 0, 0), (.getfield 52, 3, 7, 1), (.iload_n 1, 1, 0, 0), (.aload_n 0, 1, 0, 0), (.getfield 52, 3, 7, 1), (.getfield 67, 3, 3, 1), (.iload_n 1, 1, 0, 0), (.iaload, 1, 0, 0), (.iload_n 2, 1, 0, 0), (.iand, 1, 0, 0), (.aload_n 0, 1, 0, 0), (.getfield 52, 3, 7, 1), (.getfield 76, 3, 3, 2), (.iload_n 1, 1, 0, 0), (.iaload, 1, 0, 0), (.iload_n 3, 1, 0, 0), (.iand, 1, 0, 0)], (.invokevirtual 116, 3, (39, 4, 3), [1])),
  (30, [], (.return_, 1, (0, 0, 0), []))])
def am_X7_lessen : ab_M := (7, [], [
  (0, [(.iconst 0, 1, 0, 0), (.istore_n 2, 1, 0, 0)], (.nop, 0, (0, 0, 0), [1])),
  (2, [(.iload_n 2, 1, 0, 0), (.aload_n 0, 1, 0, 0), (.getfield 48, 3, 7, 0), (.getfield 62, 3, 6, 6)], (.if_icmp .ge 206, 3, (0, 0, 0), [27, 2])),
  (13, [(.aload_n 0, 1, 0, 0), (.getfield 52, 3, 7, 1), (.getfield 67, 3, 3, 1), (.iload_n 2, 1, 0, 0), (.iaload, 1, 0, 0), (.istore_n 3, 1, 0, 0), (.aload_n 0, 1, 0, 0), (.getfield 52, 3, 7, 1), (.getfield 76, 3, 3, 2), (.iload_n 2, 1, 0, 0), (.iaload, 1, 0, 0), (.istore 4, 2, 0, 0), (.iconst 0, 1, 0, 0), (.istore 5, 2, 0, 0), (.iconst 0, 1, 0, 0), (.istore 6, 2, 0, 0)], (.nop, 0, (0, 0, 0), [3])),
  (40, [(.iload 6, 2, 0, 0), (.aload_n 0, 1, 0, 0), (.getfield 48, 3, 7, 0), (.getfield 119, 3, 6, 2)], (.if_icmp .ge 68, 3, (0, 0, 0), [14, 4])),
  (52, [(.iload 5, 2, 0, 0)], (.ifCond .ne 63, 3, (0, 0, 0), [14, 5])),
  (57, [(.iload_n 3, 1, 0, 0), (.iload 6, 2, 0, 0), (.ishr, 1, 0, 0), (.iconst 1, 1, 0, 0), (.iand, 1, 0, 0)], (.ifCond .eq 48, 3, (0, 0, 0), [13, 6])),
  (66, [(.aload_n 0, 1, 0, 0), (.getfield 52, 3, 7, 1), (.iload_n 2, 1, 0, 0), (.iconst 1, 1, 0, 0), (.iload 6, 2, 0, 0), (.ishl, 1, 0, 0), (.iload 4, 2, 0, 0)], (.invokevirtual 116, 3, (39, 4, 3), [7])),
  (80, [(.iload 6, 2, 0, 0), (.aload_n 0, 1, 0, 0), (.getfield 12, 3, 7, 2), (.getfield 95, 3, 9, 2), (.iload_n 2, 1, 0, 0), (.iaload, 1, 0, 0)], (.if_icmp .eq 13, 3, (0, 0, 0), [10, 8])),
  (94, [(.aload_n 0, 1, 0, 0), (.iload_n 1, 1, 0, 0), (.iconst 0, 1, 0, 0)], (.invokevirtual 87, 3, (74, 3, 7), [9])),
  (100, [(.iconst (-1), 1, 0, 0)], (.if_icmp .eq 7, 3, (0, 0, 0), [11, 10])),
  (104, [(.iconst 1, 1, 0, 0)], (.goto 4, 3, (0, 0, 0), [12])),
  (108, [(.iconst 0, 1, 0, 0)], (.nop, 0, (0, 0, 0), [12])),
  (109, [(.istore 5, 2, 0, 0)], (.nop, 0, (0, 0, 0), [13])),
  (111, [(.iinc 6 1, 3, 0, 0)], (.goto (-74), 3, (0, 0, 0), [3])),
  (117, [(.aload_n 0, 1, 0, 0), (.getfield 52, 3, 7, 1), (.getfield 67, 3, 3, 1), (.iload_n 2, 1, 0, 0), (.iaload, 1, 0, 0), (.istore_n 3, 1, 0, 0), (.iconst 0, 1, 0, 0), (.istore 5, 2, 0, 0), (.iconst 0, 1, 0, 0), (.istore 6, 2, 0, 0)], (.nop, 0, (0, 0, 0), [15])),
  (133, [(.iload 6, 2, 0, 0), (.aload_n 0, 1, 0, 0), (.getfield 48, 3, 7, 0), (.getfield 122, 3, 6, 5)], (.if_icmp .ge 68, 3, (0, 0, 0), [26, 16])),
  (145, [(.iload 5, 2, 0, 0)], (.ifCond .ne 63, 3, (0, 0, 0), [26, 17])),
  (150, [(.iload 4, 2, 0, 0), (.iload 6, 2, 0, 0), (.ishr, 1, 0, 0), (.iconst 1, 1, 0, 0), (.iand, 1, 0, 0)], (.ifCond .eq 47, 3, (0, 0, 0), [25, 18])),
  (160, [(.aload_n 0, 1, 0, 0), (.getfield 52, 3, 7, 1), (.iload_n 2, 1, 0, 0), (.iload_n 3, 1, 0, 0), (.iconst 1, 1, 0, 0), (.iload 6, 2, 0, 0), (.ishl, 1, 0, 0)], (.invokevirtual 116, 3, (39, 4, 3), [19])),
  (173, [(.iload 6, 2, 0, 0), (.aload_n 0, 1, 0, 0), (.getfield 12, 3, 7, 2), (.getfield 98, 3, 9, 3), (.iload_n 2, 1, 0, 0), (.iaload, 1, 0, 0)], (.if_icmp .eq 13, 3, (0, 0, 0), [22, 20])),
  (187, [(.aload_n 0, 1, 0, 0), (.iload_n 1, 1, 0, 0), (.iconst 0, 1, 0, 0)], (.invokevirtual 87, 3, (74, 3, 7), [21])),
  (193, [(.iconst (-1), 1, 0, 0)], (.if_icmp .eq 7, 3, (0, 0, 0), [23, 22])),
  (197, [(.iconst 1, 1, 0, 0)], (.goto 4, 3, (0, 0, 0), [24])),
  (201, [(.iconst 0, 1, 0, 0)], (.nop, 0, (0, 0, 0), [24])),
  (202, [(.istore 5, 2, 0, 0)], (.nop, 0, (0, 0, 0), [25])),
  (204, [(.iinc 6 1, 3, 0, 0)], (.goto (-74), 3, (0, 0, 0), [15])),
  (210, [(.iinc 2 1, 3, 0, 0)], (.goto (-211), 3, (0, 0, 0), [1])),
  (216, [], (.return_, 1, (0, 0, 0), []))])
def am_X7_explore : ab_M := (11, [], [
  (0, [(.aload_n 0, 1, 0, 0), (.iload_n 1, 1, 0, 0), (.iload_n 2, 1, 0, 0)], (.invokevirtual 79, 3, (87, 3, 7), [1])),
  (6, [(.istore_n 3, 1, 0, 0), (.iload_n 3, 1, 0, 0), (.aload_n 0, 1, 0, 0), (.getfield 34, 3, 7, 8)], (.if_icmp .gt 18, 3, (0, 0, 0), [4, 2])),
  (15, [(.aload_n 0, 1, 0, 0), (.iconst 0, 1, 0, 0), (.iload_n 1, 1, 0, 0), (.aload_n 0, 1, 0, 0), (.getfield 34, 3, 7, 8), (.iload_n 3, 1, 0, 0), (.isub, 1, 0, 0)], (.invokevirtual 125, 3, (84, 4, 7), [3])),
  (27, [], (.ifCond .ne 5, 3, (0, 0, 0), [5, 4])),
  (30, [(.iconst 0, 1, 0, 0)], (.ireturn, 1, (1, 0, 0), [])),
  (32, [(.iload_n 1, 1, 0, 0), (.aload_n 0, 1, 0, 0), (.getfield 48, 3, 7, 0), (.getfield 62, 3, 6, 6)], (.if_icmp .lt 9, 3, (0, 0, 0), [8, 6])),
  (43, [(.aload_n 0, 1, 0, 0), (.iload_n 3, 1, 0, 0)], (.invokevirtual 129, 3, (86, 2, 7), [7])),
  (48, [], (.ireturn, 1, (1, 0, 0), [])),
  (49, [(.aload_n 0, 1, 0, 0), (.iload_n 1, 1, 0, 0), (.iload_n 2, 1, 0, 0)], (.invokevirtual 133, 3, (83, 3, 7), [9])),
  (55, [(.istore 4, 2, 0, 0), (.iload_n 2, 1, 0, 0), (.iconst 1, 1, 0, 0), (.iload 4, 2, 0, 0), (.ishl, 1, 0, 0), (.ior, 1, 0, 0), (.istore 5, 2, 0, 0), (.aload_n 0, 1, 0, 0), (.getfield 18, 3, 7, 3), (.iload_n 1, 1, 0, 0), (.bipush 6, 2, 0, 0), (.imul, 1, 0, 0), (.iload 4, 2, 0, 0), (.iadd, 1, 0, 0), (.iaload, 1, 0, 0), (.istore 6, 2, 0, 0), (.aload_n 0, 1, 0, 0), (.getfield 48, 3, 7, 0), (.getfield 136, 3, 6, 13), (.iload 4, 2, 0, 0), (.iaload, 1, 0, 0), (.istore 7, 2, 0, 0), (.aload_n 0, 1, 0, 0), (.getfield 31, 3, 7, 7), (.iload 7, 2, 0, 0), (.iaload, 1, 0, 0), (.istore 8, 2, 0, 0), (.iconst 0, 1, 0, 0), (.istore 9, 2, 0, 0), (.aload_n 0, 1, 0, 0), (.getfield 22, 3, 7, 4), (.iload_n 1, 1, 0, 0), (.iload 4, 2, 0, 0), (.iastore, 1, 0, 0), (.iconst 0, 1, 0, 0), (.istore 10, 2, 0, 0)], (.nop, 0, (0, 0, 0), [10])),
  (114, [(.iload 10, 2, 0, 0), (.aload_n 0, 1, 0, 0), (.getfield 48, 3, 7, 0), (.getfield 119, 3, 6, 2)], (.if_icmp .ge 92, 3, (0, 0, 0), [21, 11])),
  (126, [(.iload 9, 2, 0, 0)], (.ifCond .ne 87, 3, (0, 0, 0), [21, 12])),
  (131, [(.iload 6, 2, 0, 0), (.iload 10, 2, 0, 0), (.ishr, 1, 0, 0), (.iconst 1, 1, 0, 0), (.iand, 1, 0, 0)], (.ifCond .eq 71, 3, (0, 0, 0), [20, 13])),
  (141, [(.aload_n 0, 1, 0, 0), (.getfield 25, 3, 7, 5), (.iload 4, 2, 0, 0), (.iload 10, 2, 0, 0), (.iastore, 1, 0, 0), (.aload_n 0, 1, 0, 0), (.getfield 31, 3, 7, 7), (.iload 7, 2, 0, 0), (.iload 8, 2, 0, 0), (.aload_n 0, 1, 0, 0), (.getfield 52, 3, 7, 1), (.getfield 139, 3, 3, 6), (.iload 4, 2, 0, 0), (.bipush 6, 2, 0, 0), (.imul, 1, 0, 0), (.iload 10, 2, 0, 0), (.iadd, 1, 0, 0), (.iaload, 1, 0, 0), (.ior, 1, 0, 0), (.iastore, 1, 0, 0), (.aload_n 0, 1, 0, 0), (.iload_n 1, 1, 0, 0), (.iload 5, 2, 0, 0), (.iload 4, 2, 0, 0), (.iload 10, 2, 0, 0)], (.invokevirtual 142, 3, (81, 5, 7), [14])),
  (187, [], (.ifCond .eq 19, 3, (0, 0, 0), [18, 15])),
  (190, [(.aload_n 0, 1, 0, 0), (.iload_n 1, 1, 0, 0), (.iconst 1, 1, 0, 0), (.iadd, 1, 0, 0), (.iload 5, 2, 0, 0)], (.invokevirtual 82, 3, (80, 3, 7), [16])),
  (199, [], (.ifCond .eq 7, 3, (0, 0, 0), [18, 17])),
  (202, [(.iconst 1, 1, 0, 0)], (.goto 4, 3, (0, 0, 0), [19])),
  (206, [(.iconst 0, 1, 0, 0)], (.nop, 0, (0, 0, 0), [19])),
  (207, [(.istore 9, 2, 0, 0)], (.nop, 0, (0, 0, 0), [20])),
  (209, [(.iinc 10 1, 3, 0, 0)], (.goto (-98), 3, (0, 0, 0), [10])),
  (215, [(.aload_n 0, 1, 0, 0), (.getfield 31, 3, 7, 7), (.iload 7, 2, 0, 0), (.iload 8, 2, 0, 0), (.iastore, 1, 0, 0), (.iload 9, 2, 0, 0)], (.ireturn, 1, (1, 0, 0), []))])
def am_X7_narrow : ab_M := (9, [], [
  (0, [(.iload_n 1, 1, 0, 0), (.bipush 6, 2, 0, 0), (.imul, 1, 0, 0), (.istore 5, 2, 0, 0), (.iload 5, 2, 0, 0), (.bipush 6, 2, 0, 0), (.iadd, 1, 0, 0), (.istore 6, 2, 0, 0), (.iconst 0, 1, 0, 0), (.istore 7, 2, 0, 0)], (.nop, 0, (0, 0, 0), [1])),
  (16, [(.iload 7, 2, 0, 0), (.aload_n 0, 1, 0, 0), (.getfield 48, 3, 7, 0), (.getfield 62, 3, 6, 6)], (.if_icmp .ge 89, 3, (0, 0, 0), [12, 2])),
  (28, [(.iload_n 2, 1, 0, 0), (.iload 7, 2, 0, 0), (.ishr, 1, 0, 0), (.iconst 1, 1, 0, 0), (.iand, 1, 0, 0)], (.ifCond .ne 74, 3, (0, 0, 0), [11, 3])),
  (37, [(.aload_n 0, 1, 0, 0), (.getfield 18, 3, 7, 3), (.iload 5, 2, 0, 0), (.iload 7, 2, 0, 0), (.iadd, 1, 0, 0), (.iaload, 1, 0, 0), (.aload_n 0, 1, 0, 0), (.getfield 52, 3, 7, 1), (.getfield 146, 3, 3, 4), (.iload_n 3, 1, 0, 0), (.iload 4, 2, 0, 0), (.iload 7, 2, 0, 0)], (.invokestatic 149, 3, (27, 3, 200), [4])),
  (62, [(.iaload, 1, 0, 0), (.iand, 1, 0, 0), (.istore 8, 2, 0, 0), (.aload_n 0, 1, 0, 0), (.getfield 48, 3, 7, 0), (.iload_n 3, 1, 0, 0), (.iload 7, 2, 0, 0)], (.invokevirtual 153, 3, (67, 3, 6), [5])),
  (76, [], (.ifCond .eq 13, 3, (0, 0, 0), [8, 6])),
  (79, [(.aload_n 0, 1, 0, 0), (.iload 7, 2, 0, 0), (.iload 8, 2, 0, 0)], (.invokevirtual 72, 3, (82, 3, 7), [7])),
  (87, [(.istore 8, 2, 0, 0)], (.nop, 0, (0, 0, 0), [8])),
  (89, [(.iload 8, 2, 0, 0)], (.ifCond .ne 5, 3, (0, 0, 0), [10, 9])),
  (94, [(.iconst 0, 1, 0, 0)], (.ireturn, 1, (1, 0, 0), [])),
  (96, [(.aload_n 0, 1, 0, 0), (.getfield 18, 3, 7, 3), (.iload 6, 2, 0, 0), (.iload 7, 2, 0, 0), (.iadd, 1, 0, 0), (.iload 8, 2, 0, 0), (.iastore, 1, 0, 0)], (.nop, 0, (0, 0, 0), [11])),
  (108, [(.iinc 7 1, 3, 0, 0)], (.goto (-95), 3, (0, 0, 0), [1])),
  (114, [(.iconst 1, 1, 0, 0)], (.ireturn, 1, (1, 0, 0), []))])
def am_X7_withinDayLimit : ab_M := (8, [], [
  (0, [(.aload_n 0, 1, 0, 0), (.getfield 48, 3, 7, 0), (.getfield 136, 3, 6, 13), (.iload_n 1, 1, 0, 0), (.iaload, 1, 0, 0), (.istore_n 3, 1, 0, 0), (.aload_n 0, 1, 0, 0), (.getfield 52, 3, 7, 1), (.getfield 156, 3, 3, 3), (.iload_n 3, 1, 0, 0), (.iaload, 1, 0, 0), (.istore 4, 2, 0, 0), (.iload 4, 2, 0, 0), (.aload_n 0, 1, 0, 0), (.getfield 48, 3, 7, 0), (.getfield 159, 3, 6, 1)], (.if_icmp .lt 5, 3, (0, 0, 0), [2, 1])),
  (33, [(.iload_n 2, 1, 0, 0)], (.ireturn, 1, (0, 0, 0), [])),
  (35, [(.iload_n 2, 1, 0, 0), (.istore 5, 2, 0, 0), (.iconst 0, 1, 0, 0), (.istore 6, 2, 0, 0)], (.nop, 0, (0, 0, 0), [3])),
  (41, [(.iload 6, 2, 0, 0), (.aload_n 0, 1, 0, 0), (.getfield 48, 3, 7, 0), (.getfield 119, 3, 6, 2)], (.if_icmp .ge 71, 3, (0, 0, 0), [10, 4])),
  (53, [(.aload_n 0, 1, 0, 0), (.getfield 31, 3, 7, 7), (.iload_n 3, 1, 0, 0), (.iaload, 1, 0, 0), (.aload_n 0, 1, 0, 0), (.getfield 52, 3, 7, 1), (.getfield 139, 3, 3, 6), (.iload_n 1, 1, 0, 0), (.bipush 6, 2, 0, 0), (.imul, 1, 0, 0), (.iload 6, 2, 0, 0), (.iadd, 1, 0, 0), (.iaload, 1, 0, 0), (.ior, 1, 0, 0), (.istore 7, 2, 0, 0), (.iload 7, 2, 0, 0), (.aload_n 0, 1, 0, 0), (.getfield 48, 3, 7, 0), (.aload_n 0, 1, 0, 0), (.getfield 48, 3, 7, 0), (.iload 6, 2, 0, 0)], (.invokevirtual 162, 3, (58, 2, 6), [5])),
  (92, [], (.invokevirtual 166, 3, (60, 2, 6), [6])),
  (95, [(.iand, 1, 0, 0)], (.invokestatic 169, 3, (277, 1, 200), [7])),
  (99, [(.iload 4, 2, 0, 0)], (.if_icmp .le 14, 3, (0, 0, 0), [9, 8])),
  (104, [(.iload 5, 2, 0, 0), (.iconst 1, 1, 0, 0), (.iload 6, 2, 0, 0), (.ishl, 1, 0, 0), (.iconst (-1), 1, 0, 0), (.ixor, 1, 0, 0), (.iand, 1, 0, 0), (.istore 5, 2, 0, 0)], (.nop, 0, (0, 0, 0), [9])),
  (115, [(.iinc 6 1, 3, 0, 0)], (.goto (-77), 3, (0, 0, 0), [3])),
  (121, [(.iload 5, 2, 0, 0)], (.ireturn, 1, (0, 0, 0), []))])
def am_X7_tightest : ab_M := (7, [], [
  (0, [(.iconst 0, 1, 0, 0), (.istore_n 3, 1, 0, 0), (.bipush 7, 2, 0, 0), (.istore 4, 2, 0, 0), (.iconst 0, 1, 0, 0), (.istore 5, 2, 0, 0)], (.nop, 0, (0, 0, 0), [1])),
  (9, [(.iload 5, 2, 0, 0), (.aload_n 0, 1, 0, 0), (.getfield 48, 3, 7, 0), (.getfield 62, 3, 6, 6)], (.if_icmp .ge 49, 3, (0, 0, 0), [7, 2])),
  (21, [(.aload_n 0, 1, 0, 0), (.getfield 18, 3, 7, 3), (.iload_n 1, 1, 0, 0), (.bipush 6, 2, 0, 0), (.imul, 1, 0, 0), (.iload 5, 2, 0, 0), (.iadd, 1, 0, 0), (.iaload, 1, 0, 0)], (.invokestatic 169, 3, (277, 1, 200), [3])),
  (36, [(.istore 6, 2, 0, 0), (.iload_n 2, 1, 0, 0), (.iload 5, 2, 0, 0), (.ishr, 1, 0, 0), (.iconst 1, 1, 0, 0), (.iand, 1, 0, 0)], (.ifCond .ne 17, 3, (0, 0, 0), [6, 4])),
  (47, [(.iload 6, 2, 0, 0), (.iload 4, 2, 0, 0)], (.if_icmp .ge 10, 3, (0, 0, 0), [6, 5])),
  (54, [(.iload 5, 2, 0, 0), (.istore_n 3, 1, 0, 0), (.iload 6, 2, 0, 0), (.istore 4, 2, 0, 0)], (.nop, 0, (0, 0, 0), [6])),
  (61, [(.iinc 5 1, 3, 0, 0)], (.goto (-55), 3, (0, 0, 0), [1])),
  (67, [(.iload_n 3, 1, 0, 0)], (.ireturn, 1, (0, 0, 0), []))])
def am_X7_seat : ab_M := (9, [], [
  (0, [(.iload_n 1, 1, 0, 0), (.iload_n 2, 1, 0, 0)], (.if_icmp .ge 9, 3, (0, 0, 0), [2, 1])),
  (5, [(.iload_n 1, 1, 0, 0), (.bipush 6, 2, 0, 0)], (.if_icmp .lt 5, 3, (0, 0, 0), [3, 2])),
  (11, [(.iconst 1, 1, 0, 0)], (.ireturn, 1, (1, 0, 0), [])),
  (13, [(.aload_n 0, 1, 0, 0), (.getfield 22, 3, 7, 4), (.iload_n 1, 1, 0, 0), (.iaload, 1, 0, 0), (.istore 4, 2, 0, 0), (.aload_n 0, 1, 0, 0), (.getfield 25, 3, 7, 5), (.iload 4, 2, 0, 0), (.iaload, 1, 0, 0), (.istore 5, 2, 0, 0), (.aload_n 0, 1, 0, 0), (.getfield 52, 3, 7, 1), (.getfield 76, 3, 3, 2), (.iload 4, 2, 0, 0), (.iaload, 1, 0, 0), (.aload_n 0, 1, 0, 0), (.iload_n 1, 1, 0, 0)], (.invokevirtual 174, 3, (85, 2, 7), [4])),
  (45, [(.iconst (-1), 1, 0, 0), (.ixor, 1, 0, 0), (.iand, 1, 0, 0), (.istore 6, 2, 0, 0), (.iconst 0, 1, 0, 0), (.istore 7, 2, 0, 0)], (.nop, 0, (0, 0, 0), [5])),
  (53, [(.iload 7, 2, 0, 0), (.aload_n 0, 1, 0, 0), (.getfield 48, 3, 7, 0), (.getfield 122, 3, 6, 5)], (.if_icmp .ge 87, 3, (0, 0, 0), [13, 6])),
  (65, [(.aload_n 0, 1, 0, 0), (.getfield 52, 3, 7, 1), (.getfield 177, 3, 3, 7), (.iload 4, 2, 0, 0), (.iload 5, 2, 0, 0), (.iload 7, 2, 0, 0)], (.invokestatic 180, 3, (28, 3, 200), [7])),
  (81, [(.iaload, 1, 0, 0), (.aload_n 0, 1, 0, 0), (.getfield 52, 3, 7, 1), (.getfield 183, 3, 3, 8), (.iload 4, 2, 0, 0), (.bipush 6, 2, 0, 0), (.imul, 1, 0, 0), (.iload 5, 2, 0, 0), (.iadd, 1, 0, 0), (.iaload, 1, 0, 0), (.isub, 1, 0, 0), (.istore 8, 2, 0, 0), (.iload 6, 2, 0, 0), (.iload 7, 2, 0, 0), (.ishr, 1, 0, 0), (.iconst 1, 1, 0, 0), (.iand, 1, 0, 0)], (.ifCond .eq 35, 3, (0, 0, 0), [12, 8])),
  (111, [(.iload 8, 2, 0, 0), (.iload_n 3, 1, 0, 0)], (.if_icmp .gt 29, 3, (0, 0, 0), [12, 9])),
  (117, [(.aload_n 0, 1, 0, 0), (.getfield 28, 3, 7, 6), (.iload 4, 2, 0, 0), (.iload 7, 2, 0, 0), (.iastore, 1, 0, 0), (.aload_n 0, 1, 0, 0), (.iload_n 1, 1, 0, 0), (.iconst 1, 1, 0, 0), (.iadd, 1, 0, 0), (.iload_n 2, 1, 0, 0), (.iload_n 3, 1, 0, 0), (.iload 8, 2, 0, 0), (.isub, 1, 0, 0)], (.invokevirtual 125, 3, (84, 4, 7), [10])),
  (138, [], (.ifCond .eq 5, 3, (0, 0, 0), [12, 11])),
  (141, [(.iconst 1, 1, 0, 0)], (.ireturn, 1, (1, 0, 0), [])),
  (143, [(.iinc 7 1, 3, 0, 0)], (.goto (-93), 3, (0, 0, 0), [5])),
  (149, [(.iconst 0, 1, 0, 0)], (.ireturn, 1, (1, 0, 0), []))])
def am_X7_takenRooms : ab_M := (7, [], [
  (0, [(.aload_n 0, 1, 0, 0), (.getfield 22, 3, 7, 4), (.iload_n 1, 1, 0, 0), (.iaload, 1, 0, 0), (.istore_n 2, 1, 0, 0), (.aload_n 0, 1, 0, 0), (.getfield 52, 3, 7, 1), (.getfield 139, 3, 3, 6), (.iload_n 2, 1, 0, 0), (.bipush 6, 2, 0, 0), (.imul, 1, 0, 0), (.aload_n 0, 1, 0, 0), (.getfield 25, 3, 7, 5), (.iload_n 2, 1, 0, 0), (.iaload, 1, 0, 0), (.iadd, 1, 0, 0), (.iaload, 1, 0, 0), (.istore_n 3, 1, 0, 0), (.iconst 0, 1, 0, 0), (.istore 4, 2, 0, 0), (.iconst 0, 1, 0, 0), (.istore 5, 2, 0, 0)], (.nop, 0, (0, 0, 0), [1])),
  (33, [(.iload 5, 2, 0, 0), (.iload_n 1, 1, 0, 0)], (.if_icmp .ge 58, 3, (0, 0, 0), [5, 2])),
  (39, [(.aload_n 0, 1, 0, 0), (.getfield 22, 3, 7, 4), (.iload 5, 2, 0, 0), (.iaload, 1, 0, 0), (.istore 6, 2, 0, 0), (.iload_n 3, 1, 0, 0), (.aload_n 0, 1, 0, 0), (.getfield 52, 3, 7, 1), (.getfield 139, 3, 3, 6), (.iload 6, 2, 0, 0), (.bipush 6, 2, 0, 0), (.imul, 1, 0, 0), (.aload_n 0, 1, 0, 0), (.getfield 25, 3, 7, 5), (.iload 6, 2, 0, 0), (.iaload, 1, 0, 0), (.iadd, 1, 0, 0), (.iaload, 1, 0, 0), (.iand, 1, 0, 0)], (.ifCond .eq 17, 3, (0, 0, 0), [4, 3])),
  (74, [(.iload 4, 2, 0, 0), (.iconst 1, 1, 0, 0), (.aload_n 0, 1, 0, 0), (.getfield 28, 3, 7, 6), (.iload 6, 2, 0, 0), (.iaload, 1, 0, 0), (.ishl, 1, 0, 0), (.ior, 1, 0, 0), (.istore 4, 2, 0, 0)], (.nop, 0, (0, 0, 0), [4])),
  (88, [(.iinc 5 1, 3, 0, 0)], (.goto (-58), 3, (0, 0, 0), [1])),
  (94, [(.iload 4, 2, 0, 0)], (.ireturn, 1, (0, 0, 0), []))])
def am_X7_record : ab_M := (4, [], [
  (0, [(.iconst 0, 1, 0, 0), (.istore_n 2, 1, 0, 0), (.iconst 0, 1, 0, 0), (.istore_n 3, 1, 0, 0)], (.nop, 0, (0, 0, 0), [1])),
  (4, [(.iload_n 3, 1, 0, 0), (.aload_n 0, 1, 0, 0), (.getfield 34, 3, 7, 8), (.iload_n 1, 1, 0, 0), (.isub, 1, 0, 0)], (.if_icmp .gt 38, 3, (0, 0, 0), [7, 2])),
  (14, [(.iload_n 2, 1, 0, 0)], (.ifCond .ne 34, 3, (0, 0, 0), [7, 3])),
  (18, [(.aload_n 0, 1, 0, 0), (.iconst 0, 1, 0, 0), (.aload_n 0, 1, 0, 0), (.getfield 48, 3, 7, 0), (.getfield 62, 3, 6, 6), (.iload_n 3, 1, 0, 0)], (.invokevirtual 125, 3, (84, 4, 7), [4])),
  (31, [], (.ifCond .eq 12, 3, (0, 0, 0), [6, 5])),
  (34, [(.iconst 1, 1, 0, 0), (.istore_n 2, 1, 0, 0), (.aload_n 0, 1, 0, 0), (.iload_n 1, 1, 0, 0), (.iload_n 3, 1, 0, 0), (.iadd, 1, 0, 0), (.putfield 41, 3, 7, 10)], (.nop, 0, (0, 0, 0), [6])),
  (43, [(.iinc 3 1, 3, 0, 0)], (.goto (-42), 3, (0, 0, 0), [1])),
  (49, [(.aload_n 0, 1, 0, 0), (.getfield 12, 3, 7, 2), (.iconst 1, 1, 0, 0), (.putfield 186, 3, 9, 0), (.aload_n 0, 1, 0, 0), (.getfield 12, 3, 7, 2), (.aload_n 0, 1, 0, 0), (.getfield 48, 3, 7, 0), (.getfield 62, 3, 6, 6), (.putfield 189, 3, 9, 1), (.aload_n 0, 1, 0, 0), (.getfield 25, 3, 7, 5), (.iconst 0, 1, 0, 0), (.aload_n 0, 1, 0, 0), (.getfield 12, 3, 7, 2), (.getfield 95, 3, 9, 2), (.iconst 0, 1, 0, 0), (.bipush 6, 2, 0, 0), (.invokestatic 190, 3, 0, 0), (.aload_n 0, 1, 0, 0), (.getfield 28, 3, 7, 6), (.iconst 0, 1, 0, 0), (.aload_n 0, 1, 0, 0), (.getfield 12, 3, 7, 2), (.getfield 98, 3, 9, 3), (.iconst 0, 1, 0, 0), (.bipush 6, 2, 0, 0), (.invokestatic 190, 3, 0, 0), (.aload_n 0, 1, 0, 0), (.getfield 44, 3, 7, 11)], (.ifCond .ne 5, 3, (0, 0, 0), [9, 8])),
  (114, [(.iconst 1, 1, 0, 0)], (.ireturn, 1, (1, 0, 0), [])),
  (116, [(.aload_n 0, 1, 0, 0), (.aload_n 0, 1, 0, 0), (.getfield 41, 3, 7, 10), (.iconst 1, 1, 0, 0), (.isub, 1, 0, 0), (.putfield 34, 3, 7, 8), (.aload_n 0, 1, 0, 0), (.getfield 34, 3, 7, 8), (.aload_n 0, 1, 0, 0), (.getfield 38, 3, 7, 9)], (.if_icmp .ge 7, 3, (0, 0, 0), [11, 10])),
  (137, [(.iconst 1, 1, 0, 0)], (.goto 4, 3, (0, 0, 0), [12])),
  (141, [(.iconst 0, 1, 0, 0)], (.nop, 0, (0, 0, 0), [12])),
  (142, [], (.ireturn, 1, (1, 0, 0), []))])
def am_X7_lowest : ab_M := (5, [], [
  (0, [(.aload_n 0, 1, 0, 0), (.getfield 52, 3, 7, 1), (.getfield 196, 3, 3, 10)], (.ifCond .ne 5, 3, (0, 0, 0), [2, 1])),
  (10, [(.iconst 0, 1, 0, 0)], (.ireturn, 1, (0, 0, 0), [])),
  (12, [(.aload_n 0, 1, 0, 0), (.getfield 52, 3, 7, 1), (.getfield 196, 3, 3, 10), (.iconst 3, 1, 0, 0)], (.if_icmp .ne 10, 3, (0, 0, 0), [5, 3])),
  (23, [(.aload_n 0, 1, 0, 0), (.iload_n 1, 1, 0, 0), (.iload_n 2, 1, 0, 0)], (.invokevirtual 199, 3, (91, 3, 7), [4])),
  (29, [], (.ireturn, 1, (0, 0, 0), [])),
  (30, [(.aload_n 0, 1, 0, 0), (.getfield 52, 3, 7, 1), (.getfield 196, 3, 3, 10), (.iconst 1, 1, 0, 0)], (.if_icmp .ne 22, 3, (0, 0, 0), [8, 6])),
  (41, [(.aload_n 0, 1, 0, 0), (.getfield 48, 3, 7, 0), (.getfield 202, 3, 6, 18), (.iconst 2, 1, 0, 0), (.iaload, 1, 0, 0), (.aload_n 0, 1, 0, 0), (.iload_n 1, 1, 0, 0), (.iload_n 2, 1, 0, 0)], (.invokevirtual 205, 3, (89, 3, 7), [7])),
  (56, [(.imul, 1, 0, 0)], (.goto 4, 3, (0, 0, 0), [9])),
  (60, [(.iconst 0, 1, 0, 0)], (.nop, 0, (0, 0, 0), [9])),
  (61, [(.istore_n 3, 1, 0, 0), (.iconst 0, 1, 0, 0), (.istore 4, 2, 0, 0)], (.nop, 0, (0, 0, 0), [10])),
  (65, [(.iload 4, 2, 0, 0), (.aload_n 0, 1, 0, 0), (.getfield 48, 3, 7, 0), (.getfield 62, 3, 6, 6)], (.if_icmp .ge 66, 3, (0, 0, 0), [16, 11])),
  (77, [(.iload_n 2, 1, 0, 0), (.iload 4, 2, 0, 0), (.ishr, 1, 0, 0), (.iconst 1, 1, 0, 0), (.iand, 1, 0, 0)], (.ifCond .eq 30, 3, (0, 0, 0), [13, 12])),
  (86, [(.iload_n 3, 1, 0, 0), (.aload_n 0, 1, 0, 0), (.getfield 52, 3, 7, 1), (.getfield 183, 3, 3, 8), (.iload 4, 2, 0, 0), (.bipush 6, 2, 0, 0), (.imul, 1, 0, 0), (.aload_n 0, 1, 0, 0), (.getfield 25, 3, 7, 5), (.iload 4, 2, 0, 0), (.iaload, 1, 0, 0), (.iadd, 1, 0, 0), (.iaload, 1, 0, 0), (.iadd, 1, 0, 0), (.istore_n 3, 1, 0, 0)], (.goto 24, 3, (0, 0, 0), [15])),
  (113, [(.iload_n 3, 1, 0, 0), (.aload_n 0, 1, 0, 0), (.iload 4, 2, 0, 0), (.aload_n 0, 1, 0, 0), (.getfield 18, 3, 7, 3), (.iload_n 1, 1, 0, 0), (.bipush 6, 2, 0, 0), (.imul, 1, 0, 0), (.iload 4, 2, 0, 0), (.iadd, 1, 0, 0), (.iaload, 1, 0, 0)], (.invokevirtual 208, 3, (88, 3, 7), [14])),
  (132, [(.iadd, 1, 0, 0), (.istore_n 3, 1, 0, 0)], (.nop, 0, (0, 0, 0), [15])),
  (134, [(.iinc 4 1, 3, 0, 0)], (.goto (-72), 3, (0, 0, 0), [10])),
  (140, [(.iload_n 3, 1, 0, 0)], (.ireturn, 1, (0, 0, 0), []))])
def am_X7_cheapestSlot : ab_M := (5, [], [
  (0, [(.ldc 86, 2, 100000, 0), (.istore_n 3, 1, 0, 0), (.iconst 0, 1, 0, 0), (.istore 4, 2, 0, 0)], (.nop, 0, (0, 0, 0), [1])),
  (6, [(.iload 4, 2, 0, 0), (.aload_n 0, 1, 0, 0), (.getfield 48, 3, 7, 0), (.getfield 119, 3, 6, 2)], (.if_icmp .ge 38, 3, (0, 0, 0), [5, 2])),
  (18, [(.iload_n 2, 1, 0, 0), (.iload 4, 2, 0, 0), (.ishr, 1, 0, 0), (.iconst 1, 1, 0, 0), (.iand, 1, 0, 0)], (.ifCond .eq 23, 3, (0, 0, 0), [4, 3])),
  (27, [(.iload_n 3, 1, 0, 0), (.aload_n 0, 1, 0, 0), (.getfield 52, 3, 7, 1), (.getfield 183, 3, 3, 8), (.iload_n 1, 1, 0, 0), (.bipush 6, 2, 0, 0), (.imul, 1, 0, 0), (.iload 4, 2, 0, 0), (.iadd, 1, 0, 0), (.iaload, 1, 0, 0), (.invokestatic 211, 3, 2, 0), (.istore_n 3, 1, 0, 0)], (.nop, 0, (0, 0, 0), [4])),
  (47, [(.iinc 4 1, 3, 0, 0)], (.goto (-44), 3, (0, 0, 0), [1])),
  (53, [(.iload_n 3, 1, 0, 0)], (.ireturn, 1, (0, 0, 0), []))])
def am_X7_sureGaps : ab_M := (7, [], [
  (0, [(.iconst 0, 1, 0, 0), (.istore_n 3, 1, 0, 0), (.iconst 0, 1, 0, 0), (.istore 4, 2, 0, 0)], (.nop, 0, (0, 0, 0), [1])),
  (5, [(.iload 4, 2, 0, 0), (.aload_n 0, 1, 0, 0), (.getfield 48, 3, 7, 0), (.getfield 216, 3, 6, 4)], (.if_icmp .ge 84, 3, (0, 0, 0), [11, 2])),
  (17, [(.iconst 0, 1, 0, 0), (.istore 5, 2, 0, 0)], (.nop, 0, (0, 0, 0), [3])),
  (20, [(.iload 5, 2, 0, 0), (.aload_n 0, 1, 0, 0), (.getfield 48, 3, 7, 0), (.getfield 219, 3, 6, 0)], (.if_icmp .ge 63, 3, (0, 0, 0), [10, 4])),
  (32, [(.iload 5, 2, 0, 0), (.aload_n 0, 1, 0, 0), (.getfield 48, 3, 7, 0), (.getfield 159, 3, 6, 1), (.imul, 1, 0, 0), (.istore 6, 2, 0, 0), (.aload_n 0, 1, 0, 0), (.getfield 31, 3, 7, 7), (.iload 4, 2, 0, 0), (.iaload, 1, 0, 0), (.aload_n 0, 1, 0, 0), (.getfield 48, 3, 7, 0), (.iload 5, 2, 0, 0)], (.invokevirtual 166, 3, (60, 2, 6), [5])),
  (60, [(.iand, 1, 0, 0), (.iload 6, 2, 0, 0), (.ishr, 1, 0, 0), (.iconst 5, 1, 0, 0)], (.if_icmp .ne 21, 3, (0, 0, 0), [9, 6])),
  (68, [(.aload_n 0, 1, 0, 0), (.iload_n 1, 1, 0, 0), (.iload_n 2, 1, 0, 0), (.iload 4, 2, 0, 0), (.iload 6, 2, 0, 0), (.iconst 1, 1, 0, 0), (.iadd, 1, 0, 0)], (.invokevirtual 222, 3, (90, 5, 7), [7])),
  (80, [], (.ifCond .ne 6, 3, (0, 0, 0), [9, 8])),
  (83, [(.iinc 3 1, 3, 0, 0)], (.nop, 0, (0, 0, 0), [9])),
  (86, [(.iinc 5 1, 3, 0, 0)], (.goto (-69), 3, (0, 0, 0), [3])),
  (92, [(.iinc 4 1, 3, 0, 0)], (.goto (-90), 3, (0, 0, 0), [1])),
  (98, [(.iload_n 3, 1, 0, 0)], (.ireturn, 1, (0, 0, 0), []))])
def am_X7_canFill : ab_M := (6, [], [
  (0, [(.iconst 0, 1, 0, 0), (.istore 5, 2, 0, 0)], (.nop, 0, (0, 0, 0), [1])),
  (3, [(.iload 5, 2, 0, 0), (.aload_n 0, 1, 0, 0), (.getfield 48, 3, 7, 0), (.getfield 62, 3, 6, 6)], (.if_icmp .ge 54, 3, (0, 0, 0), [7, 2])),
  (15, [(.iload_n 2, 1, 0, 0), (.iload 5, 2, 0, 0), (.ishr, 1, 0, 0), (.iconst 1, 1, 0, 0), (.iand, 1, 0, 0)], (.ifCond .ne 39, 3, (0, 0, 0), [6, 3])),
  (24, [(.aload_n 0, 1, 0, 0), (.getfield 48, 3, 7, 0), (.getfield 136, 3, 6, 13), (.iload 5, 2, 0, 0), (.iaload, 1, 0, 0), (.iload_n 3, 1, 0, 0)], (.if_icmp .ne 25, 3, (0, 0, 0), [6, 4])),
  (38, [(.aload_n 0, 1, 0, 0), (.getfield 18, 3, 7, 3), (.iload_n 1, 1, 0, 0), (.bipush 6, 2, 0, 0), (.imul, 1, 0, 0), (.iload 5, 2, 0, 0), (.iadd, 1, 0, 0), (.iaload, 1, 0, 0), (.iload 4, 2, 0, 0), (.ishr, 1, 0, 0), (.iconst 1, 1, 0, 0), (.iand, 1, 0, 0)], (.ifCond .eq 5, 3, (0, 0, 0), [6, 5])),
  (58, [(.iconst 1, 1, 0, 0)], (.ireturn, 1, (1, 0, 0), [])),
  (60, [(.iinc 5 1, 3, 0, 0)], (.goto (-60), 3, (0, 0, 0), [1])),
  (66, [(.iconst 0, 1, 0, 0)], (.ireturn, 1, (1, 0, 0), []))])
def am_X7_lowestShares : ab_M := (7, [], [
  (0, [(.iconst 0, 1, 0, 0), (.istore_n 3, 1, 0, 0), (.iconst 0, 1, 0, 0), (.istore 4, 2, 0, 0)], (.nop, 0, (0, 0, 0), [1])),
  (5, [(.iload 4, 2, 0, 0), (.aload_n 0, 1, 0, 0), (.getfield 48, 3, 7, 0), (.getfield 216, 3, 6, 4)], (.if_icmp .ge 76, 3, (0, 0, 0), [10, 2])),
  (17, [(.iconst 0, 1, 0, 0), (.istore 5, 2, 0, 0), (.iconst 0, 1, 0, 0), (.istore 6, 2, 0, 0)], (.nop, 0, (0, 0, 0), [3])),
  (23, [(.iload 6, 2, 0, 0), (.aload_n 0, 1, 0, 0), (.getfield 48, 3, 7, 0), (.getfield 62, 3, 6, 6)], (.if_icmp .ge 38, 3, (0, 0, 0), [9, 4])),
  (35, [(.aload_n 0, 1, 0, 0), (.getfield 48, 3, 7, 0), (.getfield 136, 3, 6, 13), (.iload 6, 2, 0, 0), (.iaload, 1, 0, 0), (.iload 4, 2, 0, 0)], (.if_icmp .ne 17, 3, (0, 0, 0), [8, 5])),
  (50, [(.aload_n 0, 1, 0, 0), (.iload_n 1, 1, 0, 0), (.iload_n 2, 1, 0, 0), (.iload 6, 2, 0, 0)], (.invokevirtual 225, 3, (92, 4, 7), [6])),
  (58, [], (.ifCond .eq 6, 3, (0, 0, 0), [8, 7])),
  (61, [(.iinc 5 1, 3, 0, 0)], (.nop, 0, (0, 0, 0), [8])),
  (64, [(.iinc 6 1, 3, 0, 0)], (.goto (-44), 3, (0, 0, 0), [3])),
  (70, [(.iload_n 3, 1, 0, 0), (.getstatic 228, 3, 0, 0), (.iload 5, 2, 0, 0), (.bipush 6, 2, 0, 0), (.invokestatic 211, 3, 2, 0), (.iaload, 1, 0, 0), (.iadd, 1, 0, 0), (.istore_n 3, 1, 0, 0), (.iinc 4 1, 3, 0, 0)], (.goto (-82), 3, (0, 0, 0), [1])),
  (90, [(.iload_n 3, 1, 0, 0)], (.ireturn, 1, (0, 0, 0), []))])
def am_X7_mustEndLast : ab_M := (6, [], [
  (0, [(.iload_n 2, 1, 0, 0), (.iload_n 3, 1, 0, 0), (.ishr, 1, 0, 0), (.iconst 1, 1, 0, 0), (.iand, 1, 0, 0)], (.ifCond .eq 14, 3, (0, 0, 0), [2, 1])),
  (8, [(.iconst 1, 1, 0, 0), (.aload_n 0, 1, 0, 0), (.getfield 25, 3, 7, 5), (.iload_n 3, 1, 0, 0), (.iaload, 1, 0, 0), (.ishl, 1, 0, 0)], (.goto 14, 3, (0, 0, 0), [3])),
  (19, [(.aload_n 0, 1, 0, 0), (.getfield 18, 3, 7, 3), (.iload_n 1, 1, 0, 0), (.bipush 6, 2, 0, 0), (.imul, 1, 0, 0), (.iload_n 3, 1, 0, 0), (.iadd, 1, 0, 0), (.iaload, 1, 0, 0)], (.nop, 0, (0, 0, 0), [3])),
  (30, [(.istore 4, 2, 0, 0), (.iconst 0, 1, 0, 0), (.istore 5, 2, 0, 0)], (.nop, 0, (0, 0, 0), [4])),
  (35, [(.iload 5, 2, 0, 0), (.aload_n 0, 1, 0, 0), (.getfield 48, 3, 7, 0), (.getfield 119, 3, 6, 2)], (.if_icmp .ge 47, 3, (0, 0, 0), [9, 5])),
  (47, [(.iload 4, 2, 0, 0), (.iload 5, 2, 0, 0), (.ishr, 1, 0, 0), (.iconst 1, 1, 0, 0), (.iand, 1, 0, 0)], (.ifCond .eq 31, 3, (0, 0, 0), [8, 6])),
  (57, [(.aload_n 0, 1, 0, 0), (.getfield 52, 3, 7, 1), (.getfield 139, 3, 3, 6), (.iload_n 3, 1, 0, 0), (.bipush 6, 2, 0, 0), (.imul, 1, 0, 0), (.iload 5, 2, 0, 0), (.iadd, 1, 0, 0), (.iaload, 1, 0, 0), (.aload_n 0, 1, 0, 0), (.getfield 52, 3, 7, 1), (.getfield 231, 3, 3, 9), (.iand, 1, 0, 0)], (.ifCond .ne 5, 3, (0, 0, 0), [8, 7])),
  (83, [(.iconst 0, 1, 0, 0)], (.ireturn, 1, (1, 0, 0), [])),
  (85, [(.iinc 5 1, 3, 0, 0)], (.goto (-53), 3, (0, 0, 0), [4])),
  (91, [(.iconst 1, 1, 0, 0)], (.ireturn, 1, (1, 0, 0), []))])
def am_X8_init : ab_M := (2, [], [
  (0, [(.aload_n 0, 1, 0, 0), (.invokespecial 1, 3, 0, 0), (.aload_n 0, 1, 0, 0), (.aload_n 1, 1, 0, 0), (.putfield 7, 3, 8, 0)], (.return_, 1, (0, 0, 0), []))])
def am_X8_mostSeated : ab_M := (4, [], [
  (0, [(.iconst 0, 1, 0, 0), (.istore_n 2, 1, 0, 0), (.iconst 1, 1, 0, 0), (.istore_n 3, 1, 0, 0)], (.nop, 0, (0, 0, 0), [1])),
  (4, [(.iload_n 3, 1, 0, 0), (.iload_n 1, 1, 0, 0)], (.if_icmp .gt 32, 3, (0, 0, 0), [7, 2])),
  (9, [(.iload_n 3, 1, 0, 0), (.iload_n 1, 1, 0, 0), (.iconst (-1), 1, 0, 0), (.ixor, 1, 0, 0), (.iand, 1, 0, 0)], (.ifCond .ne 18, 3, (0, 0, 0), [6, 3])),
  (17, [(.iload_n 2, 1, 0, 0), (.iload_n 3, 1, 0, 0)], (.invokestatic 13, 3, (277, 1, 200), [4])),
  (22, [(.aload_n 0, 1, 0, 0), (.iload_n 3, 1, 0, 0)], (.invokevirtual 19, 3, (96, 2, 8), [5])),
  (27, [(.isub, 1, 0, 0), (.invokestatic 22, 3, 1, 0), (.istore_n 2, 1, 0, 0)], (.nop, 0, (0, 0, 0), [6])),
  (32, [(.iinc 3 1, 3, 0, 0)], (.goto (-31), 3, (0, 0, 0), [1])),
  (38, [(.iload_n 1, 1, 0, 0)], (.invokestatic 13, 3, (277, 1, 200), [8])),
  (42, [(.iload_n 2, 1, 0, 0), (.isub, 1, 0, 0)], (.ireturn, 1, (0, 0, 0), []))])
def am_X8_fewestUnseated : ab_M := (4, [], [
  (0, [(.iconst 0, 1, 0, 0), (.istore_n 2, 1, 0, 0), (.iconst 1, 1, 0, 0), (.istore_n 3, 1, 0, 0)], (.nop, 0, (0, 0, 0), [1])),
  (4, [(.iload_n 3, 1, 0, 0), (.iload_n 1, 1, 0, 0)], (.if_icmp .gt 46, 3, (0, 0, 0), [12, 2])),
  (9, [(.iload_n 3, 1, 0, 0), (.iload_n 1, 1, 0, 0), (.iconst (-1), 1, 0, 0), (.ixor, 1, 0, 0), (.iand, 1, 0, 0)], (.ifCond .ne 32, 3, (0, 0, 0), [11, 3])),
  (17, [(.iload_n 3, 1, 0, 0)], (.invokestatic 13, 3, (277, 1, 200), [4])),
  (21, [(.aload_n 0, 1, 0, 0), (.iload_n 3, 1, 0, 0)], (.invokevirtual 19, 3, (96, 2, 8), [5])),
  (26, [], (.if_icmp .le 20, 3, (0, 0, 0), [11, 6])),
  (29, [(.iload_n 2, 1, 0, 0)], (.ifCond .eq 14, 3, (0, 0, 0), [10, 7])),
  (33, [(.iload_n 3, 1, 0, 0)], (.invokestatic 13, 3, (277, 1, 200), [8])),
  (37, [(.iload_n 2, 1, 0, 0)], (.invokestatic 13, 3, (277, 1, 200), [9])),
  (41, [], (.if_icmp .ge 5, 3, (0, 0, 0), [11, 10])),
  (44, [(.iload_n 3, 1, 0, 0), (.istore_n 2, 1, 0, 0)], (.nop, 0, (0, 0, 0), [11])),
  (46, [(.iinc 3 1, 3, 0, 0)], (.goto (-45), 3, (0, 0, 0), [1])),
  (52, [(.iload_n 2, 1, 0, 0)], (.ireturn, 1, (0, 0, 0), []))])
def am_X8_roomsFor : ab_M := (4, [], [
  (0, [(.iconst 0, 1, 0, 0), (.istore_n 2, 1, 0, 0), (.iconst 0, 1, 0, 0), (.istore_n 3, 1, 0, 0)], (.nop, 0, (0, 0, 0), [1])),
  (4, [(.iload_n 3, 1, 0, 0), (.aload_n 0, 1, 0, 0), (.getfield 7, 3, 8, 0), (.getfield 28, 3, 6, 5)], (.if_icmp .ge 26, 3, (0, 0, 0), [7, 2])),
  (15, [(.iload_n 2, 1, 0, 0), (.aload_n 0, 1, 0, 0), (.iload_n 1, 1, 0, 0), (.iload_n 3, 1, 0, 0)], (.invokevirtual 34, 3, (299, 3, 8), [3])),
  (22, [], (.ifCond .eq 7, 3, (0, 0, 0), [5, 4])),
  (25, [(.iconst 1, 1, 0, 0)], (.goto 4, 3, (0, 0, 0), [6])),
  (29, [(.iconst 0, 1, 0, 0)], (.nop, 0, (0, 0, 0), [6])),
  (30, [(.iadd, 1, 0, 0), (.istore_n 2, 1, 0, 0), (.iinc 3 1, 3, 0, 0)], (.goto (-31), 3, (0, 0, 0), [1])),
  (38, [(.iload_n 2, 1, 0, 0)], (.ireturn, 1, (0, 0, 0), []))])
def am_X9_init : ab_M := (1, [], [
  (0, [(.aload_n 0, 1, 0, 0), (.invokespecial 3, 3, 0, 0), (.aload_n 0, 1, 0, 0), (.iconst 0, 1, 0, 0), (.putfield 9, 3, 9, 0), (.aload_n 0, 1, 0, 0), (.iconst 0, 1, 0, 0), (.putfield 15, 3, 9, 1), (.aload_n 0, 1, 0, 0), (.bipush 6, 2, 0, 0), (.newarray .int, 2, 0, 0), (.putfield 19, 3, 9, 2), (.aload_n 0, 1, 0, 0), (.bipush 6, 2, 0, 0), (.newarray .int, 2, 0, 0), (.putfield 23, 3, 9, 3)], (.return_, 1, (0, 0, 0), []))])
def am_X9_begin : ab_M := (2, [], [
  (0, [(.aload_n 0, 1, 0, 0), (.iconst 1, 1, 0, 0), (.putfield 9, 3, 9, 0), (.aload_n 0, 1, 0, 0), (.iload_n 1, 1, 0, 0), (.putfield 15, 3, 9, 1), (.aload_n 0, 1, 0, 0), (.getfield 19, 3, 9, 2), (.iconst 0, 1, 0, 0)], (.invokestatic 26, 3, (278, 2, 200), [1])),
  (18, [(.aload_n 0, 1, 0, 0), (.getfield 23, 3, 9, 3), (.iconst 0, 1, 0, 0)], (.invokestatic 26, 3, (278, 2, 200), [2])),
  (26, [], (.return_, 1, (0, 0, 0), []))])
def am_X9_copyFrom : ab_M := (2, [], [
  (0, [(.aload_n 0, 1, 0, 0), (.aload_n 1, 1, 0, 0), (.getfield 9, 3, 9, 0), (.putfield 9, 3, 9, 0), (.aload_n 0, 1, 0, 0), (.aload_n 1, 1, 0, 0), (.getfield 15, 3, 9, 1), (.putfield 15, 3, 9, 1), (.aload_n 1, 1, 0, 0), (.getfield 19, 3, 9, 2), (.iconst 0, 1, 0, 0), (.aload_n 0, 1, 0, 0), (.getfield 19, 3, 9, 2), (.iconst 0, 1, 0, 0), (.bipush 6, 2, 0, 0), (.invokestatic 32, 3, 0, 0), (.aload_n 1, 1, 0, 0), (.getfield 23, 3, 9, 3), (.iconst 0, 1, 0, 0), (.aload_n 0, 1, 0, 0), (.getfield 23, 3, 9, 3), (.iconst 0, 1, 0, 0), (.bipush 6, 2, 0, 0), (.invokestatic 32, 3, 0, 0)], (.return_, 1, (0, 0, 0), []))])
def am_X9_valueOf : ab_M := (2, [], [
  (0, [(.bipush 10, 2, 0, 0), (.aload_n 0, 1, 0, 0), (.getfield 19, 3, 9, 2), (.iload_n 1, 1, 0, 0), (.iaload, 1, 0, 0), (.imul, 1, 0, 0), (.aload_n 0, 1, 0, 0), (.getfield 23, 3, 9, 3), (.iload_n 1, 1, 0, 0), (.iaload, 1, 0, 0), (.iadd, 1, 0, 0)], (.ireturn, 1, (0, 0, 0), []))])
def am_X9_differences : ab_M := (4, [], [
  (0, [(.iconst 0, 1, 0, 0), (.istore_n 2, 1, 0, 0), (.iconst 0, 1, 0, 0), (.istore_n 3, 1, 0, 0)], (.nop, 0, (0, 0, 0), [1])),
  (4, [(.iload_n 3, 1, 0, 0), (.aload_n 0, 1, 0, 0), (.getfield 15, 3, 9, 1)], (.if_icmp .ge 42, 3, (0, 0, 0), [6, 2])),
  (12, [(.aload_n 0, 1, 0, 0), (.getfield 19, 3, 9, 2), (.iload_n 3, 1, 0, 0), (.iaload, 1, 0, 0), (.aload_n 1, 1, 0, 0), (.getfield 19, 3, 9, 2), (.iload_n 3, 1, 0, 0), (.iaload, 1, 0, 0)], (.if_icmp .ne 18, 3, (0, 0, 0), [4, 3])),
  (27, [(.aload_n 0, 1, 0, 0), (.getfield 23, 3, 9, 3), (.iload_n 3, 1, 0, 0), (.iaload, 1, 0, 0), (.aload_n 1, 1, 0, 0), (.getfield 23, 3, 9, 3), (.iload_n 3, 1, 0, 0), (.iaload, 1, 0, 0)], (.if_icmp .eq 6, 3, (0, 0, 0), [5, 4])),
  (42, [(.iinc 2 1, 3, 0, 0)], (.nop, 0, (0, 0, 0), [5])),
  (45, [(.iinc 3 1, 3, 0, 0)], (.goto (-44), 3, (0, 0, 0), [1])),
  (51, [(.iload_n 2, 1, 0, 0)], (.ireturn, 1, (0, 0, 0), []))])
def am_X9_standsIn : ab_M := (3, [], [
  (0, [(.iconst 0, 1, 0, 0), (.istore_n 2, 1, 0, 0)], (.nop, 0, (0, 0, 0), [1])),
  (2, [(.iload_n 2, 1, 0, 0), (.aload_n 0, 1, 0, 0), (.getfield 15, 3, 9, 1)], (.if_icmp .ge 37, 3, (0, 0, 0), [6, 2])),
  (10, [(.aload_n 0, 1, 0, 0), (.getfield 19, 3, 9, 2), (.iload_n 2, 1, 0, 0), (.iaload, 1, 0, 0), (.aload_n 1, 1, 0, 0), (.getfield 38, 3, 6, 2)], (.if_icmp .ge 16, 3, (0, 0, 0), [4, 3])),
  (23, [(.aload_n 0, 1, 0, 0), (.getfield 23, 3, 9, 3), (.iload_n 2, 1, 0, 0), (.iaload, 1, 0, 0), (.aload_n 1, 1, 0, 0), (.getfield 43, 3, 6, 5)], (.if_icmp .lt 5, 3, (0, 0, 0), [5, 4])),
  (36, [(.iconst 0, 1, 0, 0)], (.ireturn, 1, (1, 0, 0), [])),
  (38, [(.iinc 2 1, 3, 0, 0)], (.goto (-39), 3, (0, 0, 0), [1])),
  (44, [(.iconst 1, 1, 0, 0)], (.ireturn, 1, (1, 0, 0), []))])
def am_X10_init : ab_M := (3, [], [
  (0, [(.aload_n 0, 1, 0, 0), (.invokespecial 3, 3, 0, 0), (.aload_n 0, 1, 0, 0), (.bipush 6, 2, 0, 0), (.newarray .int, 2, 0, 0), (.putfield 9, 3, 10, 2), (.aload_n 0, 1, 0, 0), (.bipush 6, 2, 0, 0), (.newarray .int, 2, 0, 0), (.putfield 15, 3, 10, 3), (.aload_n 0, 1, 0, 0), (.iconst (-1), 1, 0, 0), (.putfield 18, 3, 10, 4), (.aload_n 0, 1, 0, 0), (.aload_n 1, 1, 0, 0), (.putfield 22, 3, 10, 0), (.aload_n 0, 1, 0, 0), (.aload_n 2, 1, 0, 0), (.putfield 26, 3, 10, 1)], (.return_, 1, (0, 0, 0), []))])
def am_X10_refresh : ab_M := (4, [], [
  (0, [(.aload_n 0, 1, 0, 0), (.getfield 18, 3, 10, 4), (.aload_n 0, 1, 0, 0), (.getfield 22, 3, 10, 0), (.getfield 30, 3, 6, 8)], (.if_icmp .ne 4, 3, (0, 0, 0), [2, 1])),
  (14, [], (.return_, 1, (0, 0, 0), [])),
  (15, [(.aload_n 0, 1, 0, 0), (.aload_n 0, 1, 0, 0), (.getfield 22, 3, 10, 0), (.getfield 30, 3, 6, 8), (.putfield 18, 3, 10, 4), (.aload_n 0, 1, 0, 0), (.getfield 26, 3, 10, 1), (.aload_n 0, 1, 0, 0), (.getfield 22, 3, 10, 0)], (.invokevirtual 35, 3, (56, 1, 6), [3])),
  (37, [], (.invokevirtual 39, 3, (26, 2, 3), [4])),
  (40, [(.iconst 0, 1, 0, 0), (.istore_n 1, 1, 0, 0)], (.nop, 0, (0, 0, 0), [5])),
  (42, [(.iload_n 1, 1, 0, 0), (.aload_n 0, 1, 0, 0), (.getfield 22, 3, 10, 0), (.getfield 45, 3, 6, 6)], (.if_icmp .ge 20, 3, (0, 0, 0), [8, 6])),
  (53, [(.aload_n 0, 1, 0, 0), (.getfield 9, 3, 10, 2), (.iload_n 1, 1, 0, 0), (.aload_n 0, 1, 0, 0), (.iload_n 1, 1, 0, 0)], (.invokevirtual 48, 3, (109, 2, 10), [7])),
  (63, [(.iastore, 1, 0, 0), (.iinc 1 1, 3, 0, 0)], (.goto (-25), 3, (0, 0, 0), [5])),
  (70, [(.iconst 1, 1, 0, 0), (.istore_n 1, 1, 0, 0), (.iconst 0, 1, 0, 0), (.istore_n 2, 1, 0, 0)], (.nop, 0, (0, 0, 0), [9])),
  (74, [(.iload_n 2, 1, 0, 0), (.bipush 108, 2, 0, 0)], (.if_icmp .gt 35, 3, (0, 0, 0), [18, 10])),
  (80, [(.iload_n 1, 1, 0, 0)], (.ifCond .eq 31, 3, (0, 0, 0), [18, 11])),
  (84, [(.aload_n 0, 1, 0, 0)], (.invokevirtual 52, 3, (110, 1, 10), [12])),
  (88, [(.istore_n 3, 1, 0, 0), (.aload_n 0, 1, 0, 0)], (.invokevirtual 56, 3, (113, 1, 10), [13])),
  (93, [], (.ifCond .ne 7, 3, (0, 0, 0), [15, 14])),
  (96, [(.iload_n 3, 1, 0, 0)], (.ifCond .eq 7, 3, (0, 0, 0), [16, 15])),
  (100, [(.iconst 1, 1, 0, 0)], (.goto 4, 3, (0, 0, 0), [17])),
  (104, [(.iconst 0, 1, 0, 0)], (.nop, 0, (0, 0, 0), [17])),
  (105, [(.istore_n 1, 1, 0, 0), (.iinc 2 1, 3, 0, 0)], (.goto (-35), 3, (0, 0, 0), [9])),
  (112, [], (.return_, 1, (0, 0, 0), []))])
def am_X10_told : ab_M := (6, [], [
  (0, [(.iconst 0, 1, 0, 0), (.istore_n 3, 1, 0, 0), (.iconst 0, 1, 0, 0), (.istore 4, 2, 0, 0)], (.nop, 0, (0, 0, 0), [1])),
  (5, [(.iload 4, 2, 0, 0), (.aload_n 0, 1, 0, 0), (.getfield 22, 3, 10, 0), (.getfield 59, 3, 6, 2)], (.if_icmp .ge 59, 3, (0, 0, 0), [11, 2])),
  (17, [(.iconst 0, 1, 0, 0), (.istore 5, 2, 0, 0)], (.nop, 0, (0, 0, 0), [3])),
  (20, [(.iload 5, 2, 0, 0), (.aload_n 0, 1, 0, 0), (.getfield 22, 3, 10, 0), (.getfield 62, 3, 6, 5)], (.if_icmp .ge 38, 3, (0, 0, 0), [10, 4])),
  (32, [(.aload_n 0, 1, 0, 0), (.iload_n 1, 1, 0, 0), (.iload 4, 2, 0, 0), (.iload 5, 2, 0, 0)], (.invokevirtual 65, 3, (106, 4, 10), [5])),
  (41, [], (.ifCond .eq 20, 3, (0, 0, 0), [9, 6])),
  (44, [(.iload_n 3, 1, 0, 0), (.iload_n 2, 1, 0, 0)], (.if_icmp .ne 12, 3, (0, 0, 0), [8, 7])),
  (49, [(.bipush 10, 2, 0, 0), (.iload 4, 2, 0, 0), (.imul, 1, 0, 0), (.iload 5, 2, 0, 0), (.iadd, 1, 0, 0)], (.ireturn, 1, (0, 0, 0), [])),
  (58, [(.iinc 3 1, 3, 0, 0)], (.nop, 0, (0, 0, 0), [9])),
  (61, [(.iinc 5 1, 3, 0, 0)], (.goto (-44), 3, (0, 0, 0), [3])),
  (67, [(.iinc 4 1, 3, 0, 0)], (.goto (-65), 3, (0, 0, 0), [1])),
  (73, [(.iconst (-1), 1, 0, 0)], (.ireturn, 1, (0, 0, 0), []))])
def am_X10_isOpen : ab_M := (4, [], [
  (0, [(.aload_n 0, 1, 0, 0), (.getfield 9, 3, 10, 2), (.iload_n 1, 1, 0, 0), (.iaload, 1, 0, 0), (.iload_n 2, 1, 0, 0), (.iconst 3, 1, 0, 0), (.imul, 1, 0, 0), (.iload_n 3, 1, 0, 0), (.iadd, 1, 0, 0), (.ishr, 1, 0, 0), (.iconst 1, 1, 0, 0), (.iand, 1, 0, 0)], (.ifCond .eq 7, 3, (0, 0, 0), [2, 1])),
  (17, [(.iconst 1, 1, 0, 0)], (.goto 4, 3, (0, 0, 0), [3])),
  (21, [(.iconst 0, 1, 0, 0)], (.nop, 0, (0, 0, 0), [3])),
  (22, [], (.ireturn, 1, (1, 0, 0), []))])
def am_X10_leastWeight : ab_M := (3, [], [
  (0, [(.iconst 0, 1, 0, 0), (.istore_n 1, 1, 0, 0), (.iconst 0, 1, 0, 0), (.istore_n 2, 1, 0, 0)], (.nop, 0, (0, 0, 0), [1])),
  (4, [(.iload_n 2, 1, 0, 0), (.aload_n 0, 1, 0, 0), (.getfield 22, 3, 10, 0), (.getfield 45, 3, 6, 6)], (.if_icmp .ge 28, 3, (0, 0, 0), [6, 2])),
  (15, [(.aload_n 0, 1, 0, 0), (.getfield 9, 3, 10, 2), (.iload_n 2, 1, 0, 0), (.iaload, 1, 0, 0)], (.ifCond .ne 5, 3, (0, 0, 0), [4, 3])),
  (24, [(.iconst (-1), 1, 0, 0)], (.ireturn, 1, (0, 0, 0), [])),
  (26, [(.iload_n 1, 1, 0, 0), (.aload_n 0, 1, 0, 0), (.iload_n 2, 1, 0, 0)], (.invokevirtual 69, 3, (108, 2, 10), [5])),
  (32, [(.iadd, 1, 0, 0), (.istore_n 1, 1, 0, 0), (.iinc 2 1, 3, 0, 0)], (.goto (-33), 3, (0, 0, 0), [1])),
  (40, [(.iload_n 1, 1, 0, 0)], (.ireturn, 1, (0, 0, 0), []))])
def am_X10_leastOf : ab_M := (5, [], [
  (0, [(.ldc 74, 2, 100000, 0), (.istore_n 2, 1, 0, 0), (.iconst 0, 1, 0, 0), (.istore_n 3, 1, 0, 0)], (.nop, 0, (0, 0, 0), [1])),
  (5, [(.iload_n 3, 1, 0, 0), (.aload_n 0, 1, 0, 0), (.getfield 22, 3, 10, 0), (.getfield 59, 3, 6, 2)], (.if_icmp .ge 57, 3, (0, 0, 0), [10, 2])),
  (16, [(.iconst 0, 1, 0, 0), (.istore 4, 2, 0, 0)], (.nop, 0, (0, 0, 0), [3])),
  (19, [(.iload 4, 2, 0, 0), (.aload_n 0, 1, 0, 0), (.getfield 22, 3, 10, 0), (.getfield 62, 3, 6, 5)], (.if_icmp .ge 36, 3, (0, 0, 0), [9, 4])),
  (31, [(.aload_n 0, 1, 0, 0), (.iload_n 1, 1, 0, 0), (.iload_n 3, 1, 0, 0), (.iload 4, 2, 0, 0)], (.invokevirtual 65, 3, (106, 4, 10), [5])),
  (39, [], (.ifCond .eq 19, 3, (0, 0, 0), [8, 6])),
  (42, [(.iload_n 2, 1, 0, 0), (.aload_n 0, 1, 0, 0), (.getfield 22, 3, 10, 0), (.iload_n 1, 1, 0, 0), (.iload_n 3, 1, 0, 0), (.iload 4, 2, 0, 0)], (.invokevirtual 75, 3, (68, 4, 6), [7])),
  (54, [(.invokestatic 79, 3, 2, 0), (.istore_n 2, 1, 0, 0)], (.nop, 0, (0, 0, 0), [8])),
  (58, [(.iinc 4 1, 3, 0, 0)], (.goto (-42), 3, (0, 0, 0), [3])),
  (64, [(.iinc 3 1, 3, 0, 0)], (.goto (-62), 3, (0, 0, 0), [1])),
  (70, [(.iload_n 2, 1, 0, 0)], (.ireturn, 1, (0, 0, 0), []))])
def am_X10_begin : ab_M := (4, [], [
  (0, [(.iconst 0, 1, 0, 0), (.istore_n 2, 1, 0, 0), (.iconst 0, 1, 0, 0), (.istore_n 3, 1, 0, 0)], (.nop, 0, (0, 0, 0), [1])),
  (4, [(.iload_n 3, 1, 0, 0), (.aload_n 0, 1, 0, 0), (.getfield 22, 3, 10, 0), (.getfield 59, 3, 6, 2)], (.if_icmp .ge 41, 3, (0, 0, 0), [5, 2])),
  (15, [(.aload_n 0, 1, 0, 0), (.getfield 26, 3, 10, 1), (.getfield 85, 3, 3, 1), (.iload_n 1, 1, 0, 0), (.iaload, 1, 0, 0), (.iload_n 3, 1, 0, 0), (.ishr, 1, 0, 0), (.iconst 1, 1, 0, 0), (.iand, 1, 0, 0)], (.ifCond .eq 19, 3, (0, 0, 0), [4, 3])),
  (31, [(.iload_n 2, 1, 0, 0), (.aload_n 0, 1, 0, 0), (.getfield 26, 3, 10, 1), (.getfield 88, 3, 3, 2), (.iload_n 1, 1, 0, 0), (.iaload, 1, 0, 0), (.iload_n 3, 1, 0, 0), (.iconst 3, 1, 0, 0), (.imul, 1, 0, 0), (.ishl, 1, 0, 0), (.ior, 1, 0, 0), (.istore_n 2, 1, 0, 0)], (.nop, 0, (0, 0, 0), [4])),
  (47, [(.iinc 3 1, 3, 0, 0)], (.goto (-46), 3, (0, 0, 0), [1])),
  (53, [(.iload_n 2, 1, 0, 0)], (.ireturn, 1, (0, 0, 0), []))])
def am_X10_dropLonely : ab_M := (5, [], [
  (0, [(.iconst 0, 1, 0, 0), (.istore_n 1, 1, 0, 0), (.iconst 0, 1, 0, 0), (.istore_n 2, 1, 0, 0)], (.nop, 0, (0, 0, 0), [1])),
  (4, [(.iload_n 2, 1, 0, 0), (.aload_n 0, 1, 0, 0), (.getfield 22, 3, 10, 0), (.getfield 45, 3, 6, 6)], (.if_icmp .ge 92, 3, (0, 0, 0), [14, 2])),
  (15, [(.iconst 0, 1, 0, 0), (.istore_n 3, 1, 0, 0)], (.nop, 0, (0, 0, 0), [3])),
  (17, [(.iload_n 3, 1, 0, 0), (.aload_n 0, 1, 0, 0), (.getfield 22, 3, 10, 0), (.getfield 59, 3, 6, 2)], (.if_icmp .ge 73, 3, (0, 0, 0), [13, 4])),
  (28, [(.iconst 0, 1, 0, 0), (.istore 4, 2, 0, 0)], (.nop, 0, (0, 0, 0), [5])),
  (31, [(.iload 4, 2, 0, 0), (.aload_n 0, 1, 0, 0), (.getfield 22, 3, 10, 0), (.getfield 62, 3, 6, 5)], (.if_icmp .ge 52, 3, (0, 0, 0), [12, 6])),
  (43, [(.aload_n 0, 1, 0, 0), (.iload_n 2, 1, 0, 0), (.iload_n 3, 1, 0, 0), (.iload 4, 2, 0, 0)], (.invokevirtual 65, 3, (106, 4, 10), [7])),
  (51, [], (.ifCond .eq 35, 3, (0, 0, 0), [11, 8])),
  (54, [(.aload_n 0, 1, 0, 0), (.iload_n 2, 1, 0, 0), (.iload_n 3, 1, 0, 0), (.iload 4, 2, 0, 0)], (.invokevirtual 91, 3, (111, 4, 10), [9])),
  (62, [], (.ifCond .eq 24, 3, (0, 0, 0), [11, 10])),
  (65, [(.aload_n 0, 1, 0, 0), (.getfield 9, 3, 10, 2), (.iload_n 2, 1, 0, 0), (.dup2, 1, 0, 0), (.iaload, 1, 0, 0), (.iconst 1, 1, 0, 0), (.iload_n 3, 1, 0, 0), (.iconst 3, 1, 0, 0), (.imul, 1, 0, 0), (.iload 4, 2, 0, 0), (.iadd, 1, 0, 0), (.ishl, 1, 0, 0), (.iconst (-1), 1, 0, 0), (.ixor, 1, 0, 0), (.iand, 1, 0, 0), (.iastore, 1, 0, 0), (.iconst 1, 1, 0, 0), (.istore_n 1, 1, 0, 0)], (.nop, 0, (0, 0, 0), [11])),
  (86, [(.iinc 4 1, 3, 0, 0)], (.goto (-58), 3, (0, 0, 0), [5])),
  (92, [(.iinc 3 1, 3, 0, 0)], (.goto (-78), 3, (0, 0, 0), [3])),
  (98, [(.iinc 2 1, 3, 0, 0)], (.goto (-97), 3, (0, 0, 0), [1])),
  (104, [(.iload_n 1, 1, 0, 0)], (.ireturn, 1, (1, 0, 0), []))])
def am_X10_isLonely : ab_M := (5, [], [
  (0, [(.iconst 0, 1, 0, 0), (.istore 4, 2, 0, 0)], (.nop, 0, (0, 0, 0), [1])),
  (3, [(.iload 4, 2, 0, 0), (.aload_n 0, 1, 0, 0), (.getfield 22, 3, 10, 0), (.getfield 45, 3, 6, 6)], (.if_icmp .ge 29, 3, (0, 0, 0), [7, 2])),
  (15, [(.iload 4, 2, 0, 0), (.iload_n 1, 1, 0, 0)], (.if_icmp .eq 17, 3, (0, 0, 0), [6, 3])),
  (21, [(.aload_n 0, 1, 0, 0), (.iload_n 1, 1, 0, 0), (.iload_n 2, 1, 0, 0), (.iload_n 3, 1, 0, 0), (.iload 4, 2, 0, 0)], (.invokevirtual 94, 3, (112, 5, 10), [4])),
  (30, [], (.ifCond .ne 5, 3, (0, 0, 0), [6, 5])),
  (33, [(.iconst 1, 1, 0, 0)], (.ireturn, 1, (1, 0, 0), [])),
  (35, [(.iinc 4 1, 3, 0, 0)], (.goto (-35), 3, (0, 0, 0), [1])),
  (41, [(.iconst 0, 1, 0, 0)], (.ireturn, 1, (1, 0, 0), []))])
def am_X10_hasPartner : ab_M := (9, [], [
  (0, [(.aload_n 0, 1, 0, 0), (.getfield 26, 3, 10, 1), (.getfield 98, 3, 3, 4), (.iload_n 1, 1, 0, 0), (.iload_n 2, 1, 0, 0), (.iload 4, 2, 0, 0)], (.invokestatic 101, 3, (27, 3, 200), [1])),
  (14, [(.iaload, 1, 0, 0), (.istore 5, 2, 0, 0), (.aload_n 0, 1, 0, 0), (.getfield 26, 3, 10, 1), (.getfield 104, 3, 3, 6), (.iload_n 1, 1, 0, 0), (.bipush 6, 2, 0, 0), (.imul, 1, 0, 0), (.iload_n 2, 1, 0, 0), (.iadd, 1, 0, 0), (.iaload, 1, 0, 0), (.istore 6, 2, 0, 0), (.iconst 0, 1, 0, 0), (.istore 7, 2, 0, 0)], (.nop, 0, (0, 0, 0), [2])),
  (36, [(.iload 7, 2, 0, 0), (.aload_n 0, 1, 0, 0), (.getfield 22, 3, 10, 0), (.getfield 59, 3, 6, 2)], (.if_icmp .ge 75, 3, (0, 0, 0), [9, 3])),
  (48, [(.iload 5, 2, 0, 0), (.iload 7, 2, 0, 0), (.ishr, 1, 0, 0), (.iconst 1, 1, 0, 0), (.iand, 1, 0, 0)], (.ifCond .eq 59, 3, (0, 0, 0), [8, 4])),
  (58, [(.aload_n 0, 1, 0, 0), (.getfield 9, 3, 10, 2), (.iload 4, 2, 0, 0), (.iaload, 1, 0, 0), (.iload 7, 2, 0, 0), (.iconst 3, 1, 0, 0), (.imul, 1, 0, 0), (.ishr, 1, 0, 0), (.bipush 7, 2, 0, 0), (.iand, 1, 0, 0), (.istore 8, 2, 0, 0), (.iload 6, 2, 0, 0), (.aload_n 0, 1, 0, 0), (.getfield 26, 3, 10, 1), (.getfield 104, 3, 3, 6), (.iload 4, 2, 0, 0), (.bipush 6, 2, 0, 0), (.imul, 1, 0, 0), (.iload 7, 2, 0, 0), (.iadd, 1, 0, 0), (.iaload, 1, 0, 0), (.iand, 1, 0, 0)], (.ifCond .eq 13, 3, (0, 0, 0), [6, 5])),
  (97, [(.iload 8, 2, 0, 0), (.iconst 1, 1, 0, 0), (.iload_n 3, 1, 0, 0), (.ishl, 1, 0, 0), (.iconst (-1), 1, 0, 0), (.ixor, 1, 0, 0), (.iand, 1, 0, 0), (.istore 8, 2, 0, 0)], (.nop, 0, (0, 0, 0), [6])),
  (107, [(.iload 8, 2, 0, 0)], (.ifCond .eq 5, 3, (0, 0, 0), [8, 7])),
  (112, [(.iconst 1, 1, 0, 0)], (.ireturn, 1, (1, 0, 0), [])),
  (114, [(.iinc 7 1, 3, 0, 0)], (.goto (-81), 3, (0, 0, 0), [2])),
  (120, [(.iconst 0, 1, 0, 0)], (.ireturn, 1, (1, 0, 0), []))])
def am_X10_dropCrowded : ab_M := (3, [], [
  (0, [(.iconst 0, 1, 0, 0), (.istore_n 1, 1, 0, 0), (.iconst 0, 1, 0, 0), (.istore_n 2, 1, 0, 0)], (.nop, 0, (0, 0, 0), [1])),
  (4, [(.iload_n 2, 1, 0, 0), (.iconst 4, 1, 0, 0)], (.if_icmp .ge 38, 3, (0, 0, 0), [9, 2])),
  (9, [(.aload_n 0, 1, 0, 0), (.aload_n 0, 1, 0, 0), (.aload_n 0, 1, 0, 0), (.getfield 22, 3, 10, 0), (.getfield 107, 3, 6, 12), (.iload_n 2, 1, 0, 0)], (.invokevirtual 110, 3, (114, 3, 10), [3])),
  (22, [], (.invokevirtual 114, 3, (115, 2, 10), [4])),
  (25, [], (.ifCond .ne 7, 3, (0, 0, 0), [6, 5])),
  (28, [(.iload_n 1, 1, 0, 0)], (.ifCond .eq 7, 3, (0, 0, 0), [7, 6])),
  (32, [(.iconst 1, 1, 0, 0)], (.goto 4, 3, (0, 0, 0), [8])),
  (36, [(.iconst 0, 1, 0, 0)], (.nop, 0, (0, 0, 0), [8])),
  (37, [(.istore_n 1, 1, 0, 0), (.iinc 2 1, 3, 0, 0)], (.goto (-37), 3, (0, 0, 0), [1])),
  (44, [(.iconst 0, 1, 0, 0), (.istore_n 2, 1, 0, 0)], (.nop, 0, (0, 0, 0), [10])),
  (46, [(.iload_n 2, 1, 0, 0), (.iconst 4, 1, 0, 0)], (.if_icmp .ge 38, 3, (0, 0, 0), [18, 11])),
  (51, [(.aload_n 0, 1, 0, 0), (.aload_n 0, 1, 0, 0), (.aload_n 0, 1, 0, 0), (.getfield 22, 3, 10, 0), (.getfield 118, 3, 6, 13), (.iload_n 2, 1, 0, 0)], (.invokevirtual 110, 3, (114, 3, 10), [12])),
  (64, [], (.invokevirtual 114, 3, (115, 2, 10), [13])),
  (67, [], (.ifCond .ne 7, 3, (0, 0, 0), [15, 14])),
  (70, [(.iload_n 1, 1, 0, 0)], (.ifCond .eq 7, 3, (0, 0, 0), [16, 15])),
  (74, [(.iconst 1, 1, 0, 0)], (.goto 4, 3, (0, 0, 0), [17])),
  (78, [(.iconst 0, 1, 0, 0)], (.nop, 0, (0, 0, 0), [17])),
  (79, [(.istore_n 1, 1, 0, 0), (.iinc 2 1, 3, 0, 0)], (.goto (-37), 3, (0, 0, 0), [10])),
  (86, [(.iload_n 1, 1, 0, 0)], (.ireturn, 1, (1, 0, 0), []))])
def am_X10_lessonsOf : ab_M := (5, [], [
  (0, [(.iconst 0, 1, 0, 0), (.istore_n 3, 1, 0, 0), (.iconst 0, 1, 0, 0), (.istore 4, 2, 0, 0)], (.nop, 0, (0, 0, 0), [1])),
  (5, [(.iload 4, 2, 0, 0), (.aload_n 0, 1, 0, 0), (.getfield 22, 3, 10, 0), (.getfield 45, 3, 6, 6)], (.if_icmp .ge 24, 3, (0, 0, 0), [5, 2])),
  (17, [(.aload_n 1, 1, 0, 0), (.iload 4, 2, 0, 0), (.iaload, 1, 0, 0), (.iload_n 2, 1, 0, 0)], (.if_icmp .ne 10, 3, (0, 0, 0), [4, 3])),
  (25, [(.iload_n 3, 1, 0, 0), (.iconst 1, 1, 0, 0), (.iload 4, 2, 0, 0), (.ishl, 1, 0, 0), (.ior, 1, 0, 0), (.istore_n 3, 1, 0, 0)], (.nop, 0, (0, 0, 0), [4])),
  (32, [(.iinc 4 1, 3, 0, 0)], (.goto (-30), 3, (0, 0, 0), [1])),
  (38, [(.iload_n 3, 1, 0, 0)], (.ireturn, 1, (0, 0, 0), []))])
def am_X10_crowdGroup : ab_M := (6, [], [
  (0, [(.iconst 0, 1, 0, 0), (.istore_n 2, 1, 0, 0)], (.nop, 0, (0, 0, 0), [1])),
  (2, [(.iload_n 2, 1, 0, 0), (.aload_n 0, 1, 0, 0), (.getfield 22, 3, 10, 0), (.getfield 45, 3, 6, 6)], (.if_icmp .ge 20, 3, (0, 0, 0), [4, 2])),
  (13, [(.aload_n 0, 1, 0, 0), (.getfield 15, 3, 10, 3), (.iload_n 2, 1, 0, 0), (.aload_n 0, 1, 0, 0), (.iload_n 2, 1, 0, 0)], (.invokevirtual 121, 3, (116, 2, 10), [3])),
  (23, [(.iastore, 1, 0, 0), (.iinc 2 1, 3, 0, 0)], (.goto (-25), 3, (0, 0, 0), [1])),
  (30, [(.iconst 0, 1, 0, 0), (.istore_n 2, 1, 0, 0), (.iconst 1, 1, 0, 0), (.istore_n 3, 1, 0, 0)], (.nop, 0, (0, 0, 0), [5])),
  (34, [(.iload_n 3, 1, 0, 0), (.iload_n 1, 1, 0, 0)], (.if_icmp .gt 91, 3, (0, 0, 0), [25, 6])),
  (39, [(.iload_n 3, 1, 0, 0), (.iload_n 1, 1, 0, 0), (.iconst (-1), 1, 0, 0), (.ixor, 1, 0, 0), (.iand, 1, 0, 0)], (.ifCond .ne 77, 3, (0, 0, 0), [24, 7])),
  (47, [(.aload_n 0, 1, 0, 0), (.iload_n 3, 1, 0, 0)], (.invokevirtual 124, 3, (117, 2, 10), [8])),
  (52, [(.istore 4, 2, 0, 0), (.iload 4, 2, 0, 0)], (.invokestatic 127, 3, (277, 1, 200), [9])),
  (59, [(.aload_n 0, 1, 0, 0), (.iload_n 3, 1, 0, 0)], (.invokevirtual 132, 3, (118, 2, 10), [10])),
  (64, [(.isub, 1, 0, 0), (.istore 5, 2, 0, 0), (.iload 5, 2, 0, 0)], (.ifCond .ge 23, 3, (0, 0, 0), [17, 11])),
  (72, [(.aload_n 0, 1, 0, 0)], (.invokevirtual 135, 3, (119, 1, 10), [12])),
  (76, [], (.ifCond .ne 7, 3, (0, 0, 0), [14, 13])),
  (79, [(.iload_n 2, 1, 0, 0)], (.ifCond .eq 7, 3, (0, 0, 0), [15, 14])),
  (83, [(.iconst 1, 1, 0, 0)], (.goto 4, 3, (0, 0, 0), [16])),
  (87, [(.iconst 0, 1, 0, 0)], (.nop, 0, (0, 0, 0), [16])),
  (88, [(.istore_n 2, 1, 0, 0)], (.goto 32, 3, (0, 0, 0), [24])),
  (92, [(.iload 5, 2, 0, 0)], (.ifCond .ne 27, 3, (0, 0, 0), [24, 18])),
  (97, [(.aload_n 0, 1, 0, 0), (.iload_n 1, 1, 0, 0), (.iload_n 3, 1, 0, 0), (.iconst (-1), 1, 0, 0), (.ixor, 1, 0, 0), (.iand, 1, 0, 0), (.iload 4, 2, 0, 0)], (.invokevirtual 138, 3, (120, 3, 10), [19])),
  (108, [], (.ifCond .ne 7, 3, (0, 0, 0), [21, 20])),
  (111, [(.iload_n 2, 1, 0, 0)], (.ifCond .eq 7, 3, (0, 0, 0), [22, 21])),
  (115, [(.iconst 1, 1, 0, 0)], (.goto 4, 3, (0, 0, 0), [23])),
  (119, [(.iconst 0, 1, 0, 0)], (.nop, 0, (0, 0, 0), [23])),
  (120, [(.istore_n 2, 1, 0, 0)], (.nop, 0, (0, 0, 0), [24])),
  (121, [(.iinc 3 1, 3, 0, 0)], (.goto (-90), 3, (0, 0, 0), [5])),
  (127, [(.iload_n 2, 1, 0, 0)], (.ireturn, 1, (1, 0, 0), []))])
def am_X10_coverLeft : ab_M := (4, [], [
  (0, [(.iconst 0, 1, 0, 0), (.istore_n 2, 1, 0, 0), (.iconst 0, 1, 0, 0), (.istore_n 3, 1, 0, 0)], (.nop, 0, (0, 0, 0), [1])),
  (4, [(.iload_n 3, 1, 0, 0), (.aload_n 0, 1, 0, 0), (.getfield 22, 3, 10, 0), (.getfield 59, 3, 6, 2)], (.if_icmp .ge 42, 3, (0, 0, 0), [5, 2])),
  (15, [(.aload_n 0, 1, 0, 0), (.getfield 9, 3, 10, 2), (.iload_n 1, 1, 0, 0), (.iaload, 1, 0, 0), (.iload_n 3, 1, 0, 0), (.iconst 3, 1, 0, 0), (.imul, 1, 0, 0), (.ishr, 1, 0, 0), (.bipush 7, 2, 0, 0), (.iand, 1, 0, 0)], (.ifCond .eq 20, 3, (0, 0, 0), [4, 3])),
  (31, [(.iload_n 2, 1, 0, 0), (.aload_n 0, 1, 0, 0), (.getfield 26, 3, 10, 1), (.getfield 104, 3, 3, 6), (.iload_n 1, 1, 0, 0), (.bipush 6, 2, 0, 0), (.imul, 1, 0, 0), (.iload_n 3, 1, 0, 0), (.iadd, 1, 0, 0), (.iaload, 1, 0, 0), (.ior, 1, 0, 0), (.istore_n 2, 1, 0, 0)], (.nop, 0, (0, 0, 0), [4])),
  (48, [(.iinc 3 1, 3, 0, 0)], (.goto (-47), 3, (0, 0, 0), [1])),
  (54, [(.iload_n 2, 1, 0, 0)], (.ireturn, 1, (0, 0, 0), []))])
def am_X10_coverOfSet : ab_M := (4, [], [
  (0, [(.iconst 0, 1, 0, 0), (.istore_n 2, 1, 0, 0), (.iconst 0, 1, 0, 0), (.istore_n 3, 1, 0, 0)], (.nop, 0, (0, 0, 0), [1])),
  (4, [(.iload_n 3, 1, 0, 0), (.aload_n 0, 1, 0, 0), (.getfield 22, 3, 10, 0), (.getfield 45, 3, 6, 6)], (.if_icmp .ge 26, 3, (0, 0, 0), [5, 2])),
  (15, [(.iload_n 1, 1, 0, 0), (.iload_n 3, 1, 0, 0), (.ishr, 1, 0, 0), (.iconst 1, 1, 0, 0), (.iand, 1, 0, 0)], (.ifCond .eq 12, 3, (0, 0, 0), [4, 3])),
  (23, [(.iload_n 2, 1, 0, 0), (.aload_n 0, 1, 0, 0), (.getfield 15, 3, 10, 3), (.iload_n 3, 1, 0, 0), (.iaload, 1, 0, 0), (.ior, 1, 0, 0), (.istore_n 2, 1, 0, 0)], (.nop, 0, (0, 0, 0), [4])),
  (32, [(.iinc 3 1, 3, 0, 0)], (.goto (-31), 3, (0, 0, 0), [1])),
  (38, [(.iload_n 2, 1, 0, 0)], (.ireturn, 1, (0, 0, 0), []))])
def am_X10_lengthOfSet : ab_M := (4, [], [
  (0, [(.iconst 0, 1, 0, 0), (.istore_n 2, 1, 0, 0), (.iconst 0, 1, 0, 0), (.istore_n 3, 1, 0, 0)], (.nop, 0, (0, 0, 0), [1])),
  (4, [(.iload_n 3, 1, 0, 0), (.aload_n 0, 1, 0, 0), (.getfield 22, 3, 10, 0), (.getfield 45, 3, 6, 6)], (.if_icmp .ge 29, 3, (0, 0, 0), [5, 2])),
  (15, [(.iload_n 1, 1, 0, 0), (.iload_n 3, 1, 0, 0), (.ishr, 1, 0, 0), (.iconst 1, 1, 0, 0), (.iand, 1, 0, 0)], (.ifCond .eq 15, 3, (0, 0, 0), [4, 3])),
  (23, [(.iload_n 2, 1, 0, 0), (.aload_n 0, 1, 0, 0), (.getfield 22, 3, 10, 0), (.getfield 142, 3, 6, 14), (.iload_n 3, 1, 0, 0), (.iaload, 1, 0, 0), (.iadd, 1, 0, 0), (.istore_n 2, 1, 0, 0)], (.nop, 0, (0, 0, 0), [4])),
  (35, [(.iinc 3 1, 3, 0, 0)], (.goto (-34), 3, (0, 0, 0), [1])),
  (41, [(.iload_n 2, 1, 0, 0)], (.ireturn, 1, (0, 0, 0), []))])
def am_X10_dropAll : ab_M := (3, [], [
  (0, [(.iconst 0, 1, 0, 0), (.istore_n 1, 1, 0, 0), (.iconst 0, 1, 0, 0), (.istore_n 2, 1, 0, 0)], (.nop, 0, (0, 0, 0), [1])),
  (4, [(.iload_n 2, 1, 0, 0), (.aload_n 0, 1, 0, 0), (.getfield 22, 3, 10, 0), (.getfield 45, 3, 6, 6)], (.if_icmp .ge 42, 3, (0, 0, 0), [7, 2])),
  (15, [(.iload_n 1, 1, 0, 0)], (.ifCond .ne 12, 3, (0, 0, 0), [4, 3])),
  (19, [(.aload_n 0, 1, 0, 0), (.getfield 9, 3, 10, 2), (.iload_n 2, 1, 0, 0), (.iaload, 1, 0, 0)], (.ifCond .eq 7, 3, (0, 0, 0), [5, 4])),
  (28, [(.iconst 1, 1, 0, 0)], (.goto 4, 3, (0, 0, 0), [6])),
  (32, [(.iconst 0, 1, 0, 0)], (.nop, 0, (0, 0, 0), [6])),
  (33, [(.istore_n 1, 1, 0, 0), (.aload_n 0, 1, 0, 0), (.getfield 9, 3, 10, 2), (.iload_n 2, 1, 0, 0), (.iconst 0, 1, 0, 0), (.iastore, 1, 0, 0), (.aload_n 0, 1, 0, 0), (.getfield 15, 3, 10, 3), (.iload_n 2, 1, 0, 0), (.iconst 0, 1, 0, 0), (.iastore, 1, 0, 0), (.iinc 2 1, 3, 0, 0)], (.goto (-47), 3, (0, 0, 0), [1])),
  (54, [(.iload_n 1, 1, 0, 0)], (.ireturn, 1, (1, 0, 0), []))])
def am_X10_dropCovering : ab_M := (7, [], [
  (0, [(.iconst 0, 1, 0, 0), (.istore_n 3, 1, 0, 0), (.iconst 0, 1, 0, 0), (.istore 4, 2, 0, 0)], (.nop, 0, (0, 0, 0), [1])),
  (5, [(.iload 4, 2, 0, 0), (.aload_n 0, 1, 0, 0), (.getfield 22, 3, 10, 0), (.getfield 45, 3, 6, 6)], (.if_icmp .ge 111, 3, (0, 0, 0), [11, 2])),
  (17, [(.iconst 0, 1, 0, 0), (.istore 5, 2, 0, 0)], (.nop, 0, (0, 0, 0), [3])),
  (20, [(.iload 5, 2, 0, 0), (.aload_n 0, 1, 0, 0), (.getfield 22, 3, 10, 0), (.getfield 59, 3, 6, 2)], (.if_icmp .ge 90, 3, (0, 0, 0), [10, 4])),
  (32, [(.bipush 7, 2, 0, 0), (.iload 5, 2, 0, 0), (.iconst 3, 1, 0, 0), (.imul, 1, 0, 0), (.ishl, 1, 0, 0), (.istore 6, 2, 0, 0), (.iload_n 1, 1, 0, 0), (.iload 4, 2, 0, 0), (.ishr, 1, 0, 0), (.iconst 1, 1, 0, 0), (.iand, 1, 0, 0)], (.ifCond .eq 66, 3, (0, 0, 0), [9, 5])),
  (50, [(.aload_n 0, 1, 0, 0), (.getfield 9, 3, 10, 2), (.iload 4, 2, 0, 0), (.iaload, 1, 0, 0), (.iload 6, 2, 0, 0), (.iand, 1, 0, 0)], (.ifCond .eq 53, 3, (0, 0, 0), [9, 6])),
  (63, [(.aload_n 0, 1, 0, 0), (.getfield 26, 3, 10, 1), (.getfield 104, 3, 3, 6), (.iload 4, 2, 0, 0), (.bipush 6, 2, 0, 0), (.imul, 1, 0, 0), (.iload 5, 2, 0, 0), (.iadd, 1, 0, 0), (.iaload, 1, 0, 0), (.iload_n 2, 1, 0, 0), (.iand, 1, 0, 0)], (.ifCond .eq 32, 3, (0, 0, 0), [9, 7])),
  (84, [(.aload_n 0, 1, 0, 0), (.getfield 9, 3, 10, 2), (.iload 4, 2, 0, 0), (.dup2, 1, 0, 0), (.iaload, 1, 0, 0), (.iload 6, 2, 0, 0), (.iconst (-1), 1, 0, 0), (.ixor, 1, 0, 0), (.iand, 1, 0, 0), (.iastore, 1, 0, 0), (.aload_n 0, 1, 0, 0), (.getfield 15, 3, 10, 3), (.iload 4, 2, 0, 0), (.aload_n 0, 1, 0, 0), (.iload 4, 2, 0, 0)], (.invokevirtual 121, 3, (116, 2, 10), [8])),
  (110, [(.iastore, 1, 0, 0), (.iconst 1, 1, 0, 0), (.istore_n 3, 1, 0, 0)], (.nop, 0, (0, 0, 0), [9])),
  (113, [(.iinc 5 1, 3, 0, 0)], (.goto (-96), 3, (0, 0, 0), [3])),
  (119, [(.iinc 4 1, 3, 0, 0)], (.goto (-117), 3, (0, 0, 0), [1])),
  (125, [(.iload_n 3, 1, 0, 0)], (.ireturn, 1, (1, 0, 0), []))])
def am_X11_init : ab_M := (1, [], [
  (0, [(.aload_n 0, 1, 0, 0), (.invokespecial 1, 3, 0, 0), (.aload_n 0, 1, 0, 0), (.new 7, 3, 6, 0), (.dup, 1, 0, 0)], (.invokespecial 9, 3, (54, 1, 101), [1])),
  (12, [(.putfield 10, 3, 11, 0), (.aload_n 0, 1, 0, 0), (.new 16, 3, 9, 0), (.dup, 1, 0, 0)], (.invokespecial 18, 3, (97, 1, 101), [2])),
  (23, [(.putfield 19, 3, 11, 1), (.aload_n 0, 1, 0, 0), (.new 16, 3, 9, 0), (.dup, 1, 0, 0)], (.invokespecial 18, 3, (97, 1, 101), [3])),
  (34, [(.putfield 23, 3, 11, 2), (.aload_n 0, 1, 0, 0), (.new 26, 3, 2, 0), (.dup, 1, 0, 0), (.aload_n 0, 1, 0, 0), (.getfield 10, 3, 11, 0)], (.invokespecial 28, 3, (12, 2, 100), [4])),
  (49, [(.putfield 31, 3, 11, 3), (.aload_n 0, 1, 0, 0), (.new 35, 3, 3, 0), (.dup, 1, 0, 0), (.aload_n 0, 1, 0, 0), (.getfield 10, 3, 11, 0)], (.invokespecial 37, 3, (25, 2, 100), [5])),
  (64, [(.putfield 38, 3, 11, 4), (.aload_n 0, 1, 0, 0), (.new 42, 3, 7, 0), (.dup, 1, 0, 0), (.aload_n 0, 1, 0, 0), (.getfield 10, 3, 11, 0), (.aload_n 0, 1, 0, 0), (.getfield 38, 3, 11, 4)], (.invokespecial 44, 3, (73, 3, 100), [6])),
  (83, [(.putfield 47, 3, 11, 5), (.aload_n 0, 1, 0, 0), (.new 51, 3, 10, 0), (.dup, 1, 0, 0), (.aload_n 0, 1, 0, 0), (.getfield 10, 3, 11, 0), (.aload_n 0, 1, 0, 0), (.getfield 38, 3, 11, 4)], (.invokespecial 53, 3, (103, 3, 100), [7])),
  (102, [(.putfield 54, 3, 11, 6), (.aload_n 0, 1, 0, 0), (.new 58, 3, 5, 0), (.dup, 1, 0, 0), (.aload_n 0, 1, 0, 0), (.getfield 10, 3, 11, 0), (.aload_n 0, 1, 0, 0), (.getfield 31, 3, 11, 3), (.aload_n 0, 1, 0, 0), (.getfield 38, 3, 11, 4), (.aload_n 0, 1, 0, 0), (.getfield 47, 3, 11, 5)], (.invokespecial 60, 3, (49, 5, 100), [8])),
  (129, [(.putfield 63, 3, 11, 7), (.aload_n 0, 1, 0, 0), (.new 67, 3, 8, 0), (.dup, 1, 0, 0), (.aload_n 0, 1, 0, 0), (.getfield 10, 3, 11, 0)], (.invokespecial 69, 3, (93, 2, 100), [9])),
  (144, [(.putfield 70, 3, 11, 8), (.aload_n 0, 1, 0, 0), (.new 74, 3, 4, 0), (.dup, 1, 0, 0), (.aload_n 0, 1, 0, 0), (.getfield 10, 3, 11, 0), (.aload_n 0, 1, 0, 0), (.getfield 31, 3, 11, 3)], (.invokespecial 76, 3, (44, 3, 100), [10])),
  (163, [(.putfield 79, 3, 11, 9), (.aload_n 0, 1, 0, 0), (.new 83, 3, 1, 0), (.dup, 1, 0, 0), (.aload_n 0, 1, 0, 0), (.getfield 10, 3, 11, 0)], (.invokespecial 85, 3, (8, 2, 100), [11])),
  (178, [(.putfield 86, 3, 11, 10), (.aload_n 0, 1, 0, 0), (.new 90, 3, 0, 0), (.dup, 1, 0, 0), (.aload_n 0, 1, 0, 0), (.getfield 10, 3, 11, 0), (.aload_n 0, 1, 0, 0), (.getfield 31, 3, 11, 3), (.aload_n 0, 1, 0, 0), (.getfield 54, 3, 11, 6)], (.invokespecial 92, 3, (0, 4, 100), [12])),
  (201, [(.putfield 95, 3, 11, 11), (.aload_n 0, 1, 0, 0), (.bipush 7, 2, 0, 0), (.newarray .byte, 2, 0, 0), (.putfield 99, 3, 11, 12), (.aload_n 0, 1, 0, 0), (.iconst 0, 1, 0, 0), (.putfield 103, 3, 11, 13)], (.return_, 1, (0, 0, 0), []))])
def am_X11_setGrid : ab_M := (3, [], [
  (0, [(.iload_n 1, 1, 0, 0), (.iconst 1, 1, 0, 0)], (.if_icmp .lt 18, 3, (0, 0, 0), [4, 1])),
  (5, [(.iload_n 1, 1, 0, 0), (.iconst 2, 1, 0, 0)], (.if_icmp .gt 13, 3, (0, 0, 0), [4, 2])),
  (10, [(.iload_n 2, 1, 0, 0), (.iconst 1, 1, 0, 0)], (.if_icmp .lt 8, 3, (0, 0, 0), [4, 3])),
  (15, [(.iload_n 2, 1, 0, 0), (.iconst 3, 1, 0, 0)], (.if_icmp .le 13, 3, (0, 0, 0), [5, 4])),
  (20, [], (.athrow, 0, (0, 109, 0), [])),
  (30, [(.aload_n 0, 1, 0, 0), (.getfield 10, 3, 11, 0)], (.invokevirtual 114, 3, (69, 1, 6), [6])),
  (37, [], (.ifCond .eq 13, 3, (0, 0, 0), [8, 7])),
  (40, [], (.athrow, 0, (1, 120, 0), [])),
  (50, [(.aload_n 0, 1, 0, 0), (.getfield 10, 3, 11, 0), (.dup, 1, 0, 0), (.getfield 123, 3, 6, 8), (.iconst 1, 1, 0, 0), (.iadd, 1, 0, 0), (.putfield 123, 3, 6, 8), (.aload_n 0, 1, 0, 0), (.getfield 10, 3, 11, 0), (.iload_n 1, 1, 0, 0), (.putfield 126, 3, 6, 0), (.aload_n 0, 1, 0, 0), (.getfield 10, 3, 11, 0), (.iload_n 2, 1, 0, 0), (.putfield 129, 3, 6, 1), (.aload_n 0, 1, 0, 0), (.getfield 10, 3, 11, 0), (.iload_n 1, 1, 0, 0), (.iload_n 2, 1, 0, 0), (.imul, 1, 0, 0), (.putfield 132, 3, 6, 2), (.aload_n 0, 1, 0, 0), (.getfield 19, 3, 11, 1), (.iconst 0, 1, 0, 0), (.putfield 135, 3, 9, 0), (.aload_n 0, 1, 0, 0), (.getfield 10, 3, 11, 0), (.getfield 132, 3, 6, 2)], (.ireturn, 1, (0, 0, 0), []))])
def am_X11_addClass : ab_M := (4, [], [
  (0, [(.iload_n 2, 1, 0, 0), (.iconst (-1), 1, 0, 0)], (.if_icmp .eq 8, 3, (0, 0, 0), [2, 1])),
  (5, [(.aload_n 0, 1, 0, 0), (.iload_n 2, 1, 0, 0)], (.invokevirtual 139, 3, (168, 2, 11), [2])),
  (10, [(.iload_n 1, 1, 0, 0), (.iconst 1, 1, 0, 0)], (.if_icmp .lt 9, 3, (0, 0, 0), [4, 3])),
  (15, [(.iload_n 1, 1, 0, 0), (.bipush 99, 2, 0, 0)], (.if_icmp .le 13, 3, (0, 0, 0), [5, 4])),
  (21, [], (.athrow, 0, (0, 143, 0), [])),
  (31, [(.aload_n 0, 1, 0, 0), (.getfield 10, 3, 11, 0), (.getfield 145, 3, 6, 3), (.iconst 4, 1, 0, 0)], (.if_icmp .lt 13, 3, (0, 0, 0), [7, 6])),
  (42, [], (.athrow, 0, (1, 148, 0), [])),
  (52, [(.aload_n 0, 1, 0, 0), (.getfield 10, 3, 11, 0), (.getfield 145, 3, 6, 3), (.istore_n 3, 1, 0, 0), (.aload_n 0, 1, 0, 0), (.getfield 10, 3, 11, 0), (.dup, 1, 0, 0), (.getfield 123, 3, 6, 8), (.iconst 1, 1, 0, 0), (.iadd, 1, 0, 0), (.putfield 123, 3, 6, 8), (.aload_n 0, 1, 0, 0), (.getfield 10, 3, 11, 0), (.getfield 150, 3, 6, 9), (.iload_n 3, 1, 0, 0), (.iload_n 1, 1, 0, 0), (.iastore, 1, 0, 0), (.aload_n 0, 1, 0, 0), (.getfield 10, 3, 11, 0), (.getfield 154, 3, 6, 10), (.iload_n 3, 1, 0, 0), (.iload_n 2, 1, 0, 0), (.iastore, 1, 0, 0), (.aload_n 0, 1, 0, 0), (.getfield 10, 3, 11, 0), (.iload_n 3, 1, 0, 0), (.iconst 1, 1, 0, 0), (.iadd, 1, 0, 0), (.putfield 145, 3, 6, 3), (.iload_n 3, 1, 0, 0)], (.ireturn, 1, (0, 0, 0), []))])
def am_X11_addTeacher : ab_M := (1, [], [
  (0, [(.aload_n 0, 1, 0, 0), (.getfield 10, 3, 11, 0), (.getfield 157, 3, 6, 4), (.iconst 4, 1, 0, 0)], (.if_icmp .lt 13, 3, (0, 0, 0), [2, 1])),
  (11, [], (.athrow, 0, (1, 160, 0), [])),
  (21, [(.aload_n 0, 1, 0, 0), (.getfield 10, 3, 11, 0), (.dup, 1, 0, 0), (.getfield 123, 3, 6, 8), (.iconst 1, 1, 0, 0), (.iadd, 1, 0, 0), (.putfield 123, 3, 6, 8), (.aload_n 0, 1, 0, 0), (.getfield 10, 3, 11, 0), (.dup, 1, 0, 0), (.getfield 157, 3, 6, 4), (.iconst 1, 1, 0, 0), (.iadd, 1, 0, 0), (.putfield 157, 3, 6, 4), (.aload_n 0, 1, 0, 0), (.getfield 10, 3, 11, 0), (.getfield 157, 3, 6, 4), (.iconst 1, 1, 0, 0), (.isub, 1, 0, 0)], (.ireturn, 1, (0, 0, 0), []))])
def am_X11_addRoom : ab_M := (3, [], [
  (0, [(.iload_n 1, 1, 0, 0), (.iconst 1, 1, 0, 0)], (.if_icmp .lt 9, 3, (0, 0, 0), [2, 1])),
  (5, [(.iload_n 1, 1, 0, 0), (.bipush 99, 2, 0, 0)], (.if_icmp .le 13, 3, (0, 0, 0), [3, 2])),
  (11, [], (.athrow, 0, (0, 162, 0), [])),
  (21, [(.aload_n 0, 1, 0, 0), (.getfield 10, 3, 11, 0), (.getfield 164, 3, 6, 5), (.iconst 3, 1, 0, 0)], (.if_icmp .lt 13, 3, (0, 0, 0), [5, 4])),
  (32, [], (.athrow, 0, (1, 167, 0), [])),
  (42, [(.aload_n 0, 1, 0, 0), (.getfield 10, 3, 11, 0), (.getfield 164, 3, 6, 5), (.istore_n 2, 1, 0, 0), (.aload_n 0, 1, 0, 0), (.getfield 10, 3, 11, 0), (.dup, 1, 0, 0), (.getfield 123, 3, 6, 8), (.iconst 1, 1, 0, 0), (.iadd, 1, 0, 0), (.putfield 123, 3, 6, 8), (.aload_n 0, 1, 0, 0), (.getfield 10, 3, 11, 0), (.getfield 169, 3, 6, 11), (.iload_n 2, 1, 0, 0), (.iload_n 1, 1, 0, 0), (.iastore, 1, 0, 0), (.aload_n 0, 1, 0, 0), (.getfield 10, 3, 11, 0), (.iload_n 2, 1, 0, 0), (.iconst 1, 1, 0, 0), (.iadd, 1, 0, 0), (.putfield 164, 3, 6, 5), (.iload_n 2, 1, 0, 0)], (.ireturn, 1, (0, 0, 0), []))])
def am_X11_addLesson : ab_M := (5, [], [
  (0, [(.iload_n 1, 1, 0, 0)], (.ifCond .lt 14, 3, (0, 0, 0), [2, 1])),
  (4, [(.iload_n 1, 1, 0, 0), (.aload_n 0, 1, 0, 0), (.getfield 10, 3, 11, 0), (.getfield 145, 3, 6, 3)], (.if_icmp .lt 13, 3, (0, 0, 0), [3, 2])),
  (15, [], (.athrow, 0, (2, 174, 0), [])),
  (25, [(.aload_n 0, 1, 0, 0), (.iload_n 2, 1, 0, 0)], (.invokevirtual 177, 3, (167, 2, 11), [4])),
  (30, [(.iload_n 3, 1, 0, 0), (.iconst 1, 1, 0, 0)], (.if_icmp .lt 8, 3, (0, 0, 0), [6, 5])),
  (35, [(.iload_n 3, 1, 0, 0), (.iconst 2, 1, 0, 0)], (.if_icmp .le 13, 3, (0, 0, 0), [7, 6])),
  (40, [], (.athrow, 0, (0, 180, 0), [])),
  (50, [(.aload_n 0, 1, 0, 0), (.getfield 10, 3, 11, 0), (.getfield 182, 3, 6, 6), (.bipush 6, 2, 0, 0)], (.if_icmp .lt 13, 3, (0, 0, 0), [9, 8])),
  (62, [], (.athrow, 0, (1, 185, 0), [])),
  (72, [(.aload_n 0, 1, 0, 0), (.getfield 10, 3, 11, 0), (.getfield 182, 3, 6, 6), (.istore 4, 2, 0, 0), (.aload_n 0, 1, 0, 0), (.getfield 10, 3, 11, 0), (.dup, 1, 0, 0), (.getfield 123, 3, 6, 8), (.iconst 1, 1, 0, 0), (.iadd, 1, 0, 0), (.putfield 123, 3, 6, 8), (.aload_n 0, 1, 0, 0), (.getfield 10, 3, 11, 0), (.getfield 187, 3, 6, 12), (.iload 4, 2, 0, 0), (.iload_n 1, 1, 0, 0), (.iastore, 1, 0, 0), (.aload_n 0, 1, 0, 0), (.getfield 10, 3, 11, 0), (.getfield 190, 3, 6, 13), (.iload 4, 2, 0, 0), (.iload_n 2, 1, 0, 0), (.iastore, 1, 0, 0), (.aload_n 0, 1, 0, 0), (.getfield 10, 3, 11, 0), (.getfield 193, 3, 6, 14), (.iload 4, 2, 0, 0), (.iload_n 3, 1, 0, 0), (.iastore, 1, 0, 0), (.aload_n 0, 1, 0, 0), (.getfield 10, 3, 11, 0), (.iload 4, 2, 0, 0), (.iconst 1, 1, 0, 0), (.iadd, 1, 0, 0), (.putfield 182, 3, 6, 6), (.aload_n 0, 1, 0, 0), (.getfield 19, 3, 11, 1), (.iconst 0, 1, 0, 0), (.putfield 135, 3, 9, 0), (.iload 4, 2, 0, 0)], (.ireturn, 1, (0, 0, 0), []))])
def am_X11_addRule : ab_M := (5, [], [
  (0, [(.aload_n 0, 1, 0, 0), (.getfield 10, 3, 11, 0), (.iload_n 1, 1, 0, 0), (.iload_n 2, 1, 0, 0), (.iload_n 3, 1, 0, 0)], (.invokevirtual 196, 3, (70, 4, 6), [1])),
  (10, [], (.ifCond .ne 13, 3, (0, 0, 0), [3, 2])),
  (13, [], (.athrow, 0, (0, 200, 0), [])),
  (23, [(.aload_n 0, 1, 0, 0), (.getfield 10, 3, 11, 0), (.getfield 202, 3, 6, 7), (.bipush 10, 2, 0, 0)], (.if_icmp .lt 13, 3, (0, 0, 0), [5, 4])),
  (35, [], (.athrow, 0, (1, 205, 0), [])),
  (45, [(.aload_n 0, 1, 0, 0), (.getfield 10, 3, 11, 0), (.getfield 202, 3, 6, 7), (.istore 4, 2, 0, 0), (.aload_n 0, 1, 0, 0), (.getfield 10, 3, 11, 0), (.dup, 1, 0, 0), (.getfield 123, 3, 6, 8), (.iconst 1, 1, 0, 0), (.iadd, 1, 0, 0), (.putfield 123, 3, 6, 8), (.aload_n 0, 1, 0, 0), (.getfield 10, 3, 11, 0), (.getfield 207, 3, 6, 15), (.iload 4, 2, 0, 0), (.iload_n 1, 1, 0, 0), (.iastore, 1, 0, 0), (.aload_n 0, 1, 0, 0), (.getfield 10, 3, 11, 0), (.getfield 210, 3, 6, 16), (.iload 4, 2, 0, 0), (.iload_n 2, 1, 0, 0), (.iastore, 1, 0, 0), (.aload_n 0, 1, 0, 0), (.getfield 10, 3, 11, 0), (.getfield 213, 3, 6, 17), (.iload 4, 2, 0, 0), (.iload_n 3, 1, 0, 0), (.iastore, 1, 0, 0), (.aload_n 0, 1, 0, 0), (.getfield 10, 3, 11, 0), (.iload 4, 2, 0, 0), (.iconst 1, 1, 0, 0), (.iadd, 1, 0, 0), (.putfield 202, 3, 6, 7), (.iload 4, 2, 0, 0)], (.ireturn, 1, (0, 0, 0), []))])
def am_X11_left : ab_M := (2, [], [
  (0, [(.aload_n 0, 1, 0, 0), (.iload_n 1, 1, 0, 0)], (.invokevirtual 222, 3, (166, 2, 11), [1])),
  (5, [(.aload_n 0, 1, 0, 0), (.getfield 54, 3, 11, 6)], (.invokevirtual 225, 3, (104, 1, 10), [2])),
  (12, [(.aload_n 0, 1, 0, 0), (.getfield 54, 3, 11, 6), (.getfield 228, 3, 10, 2), (.iload_n 1, 1, 0, 0), (.iaload, 1, 0, 0)], (.invokestatic 231, 3, (277, 1, 200), [3])),
  (24, [], (.ireturn, 1, (0, 0, 0), []))])
def am_X11_leftAt : ab_M := (3, [], [
  (0, [(.aload_n 0, 1, 0, 0), (.iload_n 1, 1, 0, 0)], (.invokevirtual 222, 3, (166, 2, 11), [1])),
  (5, [(.aload_n 0, 1, 0, 0), (.getfield 54, 3, 11, 6)], (.invokevirtual 225, 3, (104, 1, 10), [2])),
  (12, [(.iload_n 2, 1, 0, 0)], (.ifCond .lt 19, 3, (0, 0, 0), [5, 3])),
  (16, [(.iload_n 2, 1, 0, 0), (.aload_n 0, 1, 0, 0), (.getfield 54, 3, 11, 6), (.getfield 228, 3, 10, 2), (.iload_n 1, 1, 0, 0), (.iaload, 1, 0, 0)], (.invokestatic 231, 3, (277, 1, 200), [4])),
  (29, [], (.if_icmp .lt 13, 3, (0, 0, 0), [6, 5])),
  (32, [], (.athrow, 0, (3, 239, 0), [])),
  (42, [(.aload_n 0, 1, 0, 0), (.getfield 54, 3, 11, 6), (.iload_n 1, 1, 0, 0), (.iload_n 2, 1, 0, 0)], (.invokevirtual 242, 3, (105, 3, 10), [7])),
  (51, [], (.ireturn, 1, (0, 0, 0), []))])
def am_X11_first : ab_M := (1, [], [
  (0, [(.aload_n 0, 1, 0, 0), (.getfield 38, 3, 11, 4), (.aload_n 0, 1, 0, 0), (.getfield 10, 3, 11, 0)], (.invokevirtual 246, 3, (56, 1, 6), [1])),
  (11, [], (.invokevirtual 250, 3, (26, 2, 3), [2])),
  (14, [(.aload_n 0, 1, 0, 0), (.aload_n 0, 1, 0, 0), (.getfield 47, 3, 11, 5)], (.invokevirtual 253, 3, (75, 1, 7), [3])),
  (22, [], (.invokevirtual 256, 3, (163, 2, 11), [4])),
  (25, [], (.ireturn, 1, (1, 0, 0), []))])
def am_X11_next : ab_M := (1, [], [
  (0, [(.aload_n 0, 1, 0, 0)], (.invokevirtual 260, 3, (165, 1, 11), [1])),
  (4, [(.aload_n 0, 1, 0, 0), (.aload_n 0, 1, 0, 0), (.getfield 47, 3, 11, 5), (.aload_n 0, 1, 0, 0), (.getfield 19, 3, 11, 1)], (.invokevirtual 263, 3, (76, 2, 7), [2])),
  (16, [], (.ifCond .eq 7, 3, (0, 0, 0), [4, 3])),
  (19, [(.iconst 0, 1, 0, 0)], (.goto 4, 3, (0, 0, 0), [5])),
  (23, [(.iconst (-1), 1, 0, 0)], (.nop, 0, (0, 0, 0), [5])),
  (24, [], (.invokevirtual 256, 3, (163, 2, 11), [6])),
  (27, [], (.ireturn, 1, (1, 0, 0), []))])
def am_X11_place : ab_M := (5, [], [
  (0, [(.aload_n 0, 1, 0, 0), (.iload_n 1, 1, 0, 0)], (.invokevirtual 222, 3, (166, 2, 11), [1])),
  (5, [(.aload_n 0, 1, 0, 0), (.iload_n 2, 1, 0, 0)], (.invokevirtual 267, 3, (169, 2, 11), [2])),
  (10, [(.aload_n 0, 1, 0, 0), (.iload_n 3, 1, 0, 0)], (.invokevirtual 139, 3, (168, 2, 11), [3])),
  (15, [(.iconst (-1), 1, 0, 0), (.istore 4, 2, 0, 0), (.aload_n 0, 1, 0, 0), (.getfield 19, 3, 11, 1), (.getfield 135, 3, 9, 0)], (.ifCond .eq 16, 3, (0, 0, 0), [6, 4])),
  (28, [(.aload_n 0, 1, 0, 0), (.getfield 19, 3, 11, 1), (.iload_n 1, 1, 0, 0)], (.invokevirtual 270, 3, (100, 2, 9), [5])),
  (36, [(.istore 4, 2, 0, 0)], (.goto 17, 3, (0, 0, 0), [7])),
  (41, [(.aload_n 0, 1, 0, 0), (.getfield 19, 3, 11, 1), (.aload_n 0, 1, 0, 0), (.getfield 10, 3, 11, 0), (.getfield 182, 3, 6, 6)], (.invokevirtual 273, 3, (98, 2, 9), [7])),
  (55, [(.aload_n 0, 1, 0, 0), (.getfield 19, 3, 11, 1), (.getfield 276, 3, 9, 2), (.iload_n 1, 1, 0, 0), (.iload_n 2, 1, 0, 0), (.iastore, 1, 0, 0), (.aload_n 0, 1, 0, 0), (.getfield 19, 3, 11, 1), (.getfield 279, 3, 9, 3), (.iload_n 1, 1, 0, 0), (.iload_n 3, 1, 0, 0), (.iastore, 1, 0, 0), (.iload 4, 2, 0, 0)], (.ireturn, 1, (0, 0, 0), []))])
def am_X11_at : ab_M := (2, [], [
  (0, [(.aload_n 0, 1, 0, 0), (.iload_n 1, 1, 0, 0)], (.invokevirtual 222, 3, (166, 2, 11), [1])),
  (5, [(.aload_n 0, 1, 0, 0)], (.invokevirtual 260, 3, (165, 1, 11), [2])),
  (9, [(.aload_n 0, 1, 0, 0), (.getfield 19, 3, 11, 1), (.iload_n 1, 1, 0, 0)], (.invokevirtual 270, 3, (100, 2, 9), [3])),
  (17, [], (.ireturn, 1, (0, 0, 0), []))])
def am_X11_broken : ab_M := (1, [], [
  (0, [(.aload_n 0, 1, 0, 0)], (.invokevirtual 260, 3, (165, 1, 11), [1])),
  (4, [(.aload_n 0, 1, 0, 0), (.getfield 31, 3, 11, 3), (.aload_n 0, 1, 0, 0), (.getfield 19, 3, 11, 1)], (.invokevirtual 282, 3, (15, 2, 2), [2])),
  (15, [], (.ireturn, 1, (0, 0, 0), []))])
def am_X11_groundFaults : ab_M := (1, [], [
  (0, [(.aload_n 0, 1, 0, 0)], (.invokevirtual 260, 3, (165, 1, 11), [1])),
  (4, [(.aload_n 0, 1, 0, 0), (.getfield 31, 3, 11, 3), (.aload_n 0, 1, 0, 0), (.getfield 19, 3, 11, 1)], (.invokevirtual 286, 3, (13, 2, 2), [2])),
  (15, [], (.ireturn, 1, (0, 0, 0), []))])
def am_X11_image : ab_M := (3, [], [
  (0, [(.aload_n 0, 1, 0, 0)], (.invokevirtual 260, 3, (165, 1, 11), [1])),
  (4, [(.aload_n 0, 1, 0, 0), (.getfield 23, 3, 11, 2), (.getfield 135, 3, 9, 0)], (.ifCond .eq 24, 3, (0, 0, 0), [4, 2])),
  (14, [(.aload_n 0, 1, 0, 0), (.getfield 23, 3, 11, 2), (.getfield 289, 3, 9, 1), (.aload_n 0, 1, 0, 0), (.getfield 19, 3, 11, 1), (.getfield 289, 3, 9, 1)], (.if_icmp .ne 7, 3, (0, 0, 0), [4, 3])),
  (31, [(.iconst 1, 1, 0, 0)], (.goto 4, 3, (0, 0, 0), [5])),
  (35, [(.iconst 0, 1, 0, 0)], (.nop, 0, (0, 0, 0), [5])),
  (36, [(.istore_n 1, 1, 0, 0), (.iload_n 1, 1, 0, 0)], (.ifCond .eq 17, 3, (0, 0, 0), [8, 6])),
  (41, [(.aload_n 0, 1, 0, 0), (.getfield 19, 3, 11, 1), (.aload_n 0, 1, 0, 0), (.getfield 23, 3, 11, 2)], (.invokevirtual 290, 3, (101, 2, 9), [7])),
  (52, [], (.goto 4, 3, (0, 0, 0), [9])),
  (55, [(.iconst (-1), 1, 0, 0)], (.nop, 0, (0, 0, 0), [9])),
  (56, [(.istore_n 2, 1, 0, 0), (.aload_n 0, 1, 0, 0), (.getfield 23, 3, 11, 2), (.aload_n 0, 1, 0, 0), (.getfield 19, 3, 11, 1)], (.invokevirtual 293, 3, (99, 2, 9), [10])),
  (68, [(.iload_n 2, 1, 0, 0)], (.ireturn, 1, (0, 0, 0), []))])
def am_X11_restore : ab_M := (2, [], [
  (0, [(.aload_n 0, 1, 0, 0), (.getfield 23, 3, 11, 2), (.getfield 135, 3, 9, 0)], (.ifCond .eq 20, 3, (0, 0, 0), [2, 1])),
  (10, [(.aload_n 0, 1, 0, 0), (.getfield 23, 3, 11, 2), (.getfield 289, 3, 9, 1), (.aload_n 0, 1, 0, 0), (.getfield 10, 3, 11, 0), (.getfield 182, 3, 6, 6)], (.if_icmp .eq 14, 3, (0, 0, 0), [3, 2])),
  (27, [], (.athrow, 0, (1, 297, 0), [])),
  (38, [(.aload_n 0, 1, 0, 0), (.getfield 23, 3, 11, 2), (.aload_n 0, 1, 0, 0), (.getfield 10, 3, 11, 0)], (.invokevirtual 299, 3, (102, 2, 9), [4])),
  (49, [], (.ifCond .ne 14, 3, (0, 0, 0), [6, 5])),
  (52, [], (.athrow, 0, (1, 303, 0), [])),
  (63, [(.aload_n 0, 1, 0, 0), (.getfield 19, 3, 11, 1), (.getfield 135, 3, 9, 0)], (.ifCond .eq 17, 3, (0, 0, 0), [9, 7])),
  (73, [(.aload_n 0, 1, 0, 0), (.getfield 19, 3, 11, 1), (.aload_n 0, 1, 0, 0), (.getfield 23, 3, 11, 2)], (.invokevirtual 290, 3, (101, 2, 9), [8])),
  (84, [], (.goto 4, 3, (0, 0, 0), [10])),
  (87, [(.iconst (-1), 1, 0, 0)], (.nop, 0, (0, 0, 0), [10])),
  (88, [(.istore_n 1, 1, 0, 0), (.aload_n 0, 1, 0, 0), (.getfield 19, 3, 11, 1), (.aload_n 0, 1, 0, 0), (.getfield 23, 3, 11, 2)], (.invokevirtual 293, 3, (99, 2, 9), [11])),
  (100, [(.iload_n 1, 1, 0, 0)], (.ireturn, 1, (0, 0, 0), []))])
def am_X11_core : ab_M := (1, [], [
  (0, [(.aload_n 0, 1, 0, 0), (.getfield 63, 3, 11, 7), (.iconst (-1), 1, 0, 0), (.iconst 0, 1, 0, 0)], (.invokevirtual 319, 3, (51, 3, 5), [1])),
  (9, [], (.ireturn, 1, (0, 0, 0), []))])
def am_X11_cores : ab_M := (1, [], [
  (0, [(.aload_n 0, 1, 0, 0), (.getfield 63, 3, 11, 7)], (.invokevirtual 322, 3, (52, 1, 5), [1])),
  (7, [(.aload_n 0, 1, 0, 0), (.getfield 63, 3, 11, 7), (.getfield 323, 3, 5, 5)], (.ireturn, 1, (0, 0, 0), []))])
def am_X11_coreAt : ab_M := (2, [], [
  (0, [(.aload_n 0, 1, 0, 0), (.getfield 63, 3, 11, 7)], (.invokevirtual 322, 3, (52, 1, 5), [1])),
  (7, [(.iload_n 1, 1, 0, 0)], (.ifCond .lt 14, 3, (0, 0, 0), [3, 2])),
  (11, [(.iload_n 1, 1, 0, 0), (.aload_n 0, 1, 0, 0), (.getfield 63, 3, 11, 7), (.getfield 323, 3, 5, 5)], (.if_icmp .lt 14, 3, (0, 0, 0), [4, 3])),
  (22, [], (.athrow, 0, (3, 326, 0), [])),
  (33, [(.aload_n 0, 1, 0, 0), (.getfield 63, 3, 11, 7), (.getfield 328, 3, 5, 4), (.iload_n 1, 1, 0, 0), (.iaload, 1, 0, 0)], (.ireturn, 1, (0, 0, 0), []))])
def am_X11_isNeeded : ab_M := (3, [], [
  (0, [(.aload_n 0, 1, 0, 0), (.iload_n 1, 1, 0, 0)], (.invokevirtual 216, 3, (171, 2, 11), [1])),
  (5, [(.aload_n 0, 1, 0, 0), (.getfield 10, 3, 11, 0)], (.invokevirtual 246, 3, (56, 1, 6), [2])),
  (12, [(.istore_n 2, 1, 0, 0), (.aload_n 0, 1, 0, 0), (.getfield 63, 3, 11, 7), (.iload_n 2, 1, 0, 0), (.iconst (-1), 1, 0, 0), (.iconst 0, 1, 0, 0)], (.invokevirtual 331, 3, (50, 4, 5), [3])),
  (23, [], (.ifCond .ne 26, 3, (0, 0, 0), [7, 4])),
  (26, [(.aload_n 0, 1, 0, 0), (.getfield 63, 3, 11, 7), (.iload_n 2, 1, 0, 0), (.iconst 1, 1, 0, 0), (.iload_n 1, 1, 0, 0), (.ishl, 1, 0, 0), (.iconst (-1), 1, 0, 0), (.ixor, 1, 0, 0), (.iand, 1, 0, 0), (.iconst (-1), 1, 0, 0), (.iconst 0, 1, 0, 0)], (.invokevirtual 331, 3, (50, 4, 5), [5])),
  (42, [], (.ifCond .eq 7, 3, (0, 0, 0), [7, 6])),
  (45, [(.iconst 1, 1, 0, 0)], (.goto 4, 3, (0, 0, 0), [8])),
  (49, [(.iconst 0, 1, 0, 0)], (.nop, 0, (0, 0, 0), [8])),
  (50, [], (.ireturn, 1, (1, 0, 0), []))])
def am_X11_matched : ab_M := (2, [], [
  (0, [(.aload_n 0, 1, 0, 0), (.iload_n 1, 1, 0, 0)], (.invokevirtual 267, 3, (169, 2, 11), [1])),
  (5, [(.aload_n 0, 1, 0, 0)], (.invokevirtual 260, 3, (165, 1, 11), [2])),
  (9, [(.aload_n 0, 1, 0, 0), (.getfield 70, 3, 11, 8), (.aload_n 0, 1, 0, 0), (.getfield 31, 3, 11, 3), (.aload_n 0, 1, 0, 0), (.getfield 19, 3, 11, 1), (.iload_n 1, 1, 0, 0)], (.invokevirtual 334, 3, (20, 3, 2), [3])),
  (25, [], (.invokevirtual 338, 3, (94, 2, 8), [4])),
  (28, [], (.ireturn, 1, (0, 0, 0), []))])
def am_X11_unfit : ab_M := (2, [], [
  (0, [(.aload_n 0, 1, 0, 0), (.iload_n 1, 1, 0, 0)], (.invokevirtual 267, 3, (169, 2, 11), [1])),
  (5, [(.aload_n 0, 1, 0, 0)], (.invokevirtual 260, 3, (165, 1, 11), [2])),
  (9, [(.aload_n 0, 1, 0, 0), (.getfield 70, 3, 11, 8), (.aload_n 0, 1, 0, 0), (.getfield 31, 3, 11, 3), (.aload_n 0, 1, 0, 0), (.getfield 19, 3, 11, 1), (.iload_n 1, 1, 0, 0)], (.invokevirtual 334, 3, (20, 3, 2), [3])),
  (25, [], (.invokevirtual 341, 3, (95, 2, 8), [4])),
  (28, [], (.ireturn, 1, (0, 0, 0), []))])
def am_X11_setWeights : ab_M := (5, [], [
  (0, [(.iload_n 1, 1, 0, 0)], (.ifCond .lt 29, 3, (0, 0, 0), [6, 1])),
  (4, [(.iload_n 1, 1, 0, 0), (.bipush 9, 2, 0, 0)], (.if_icmp .gt 23, 3, (0, 0, 0), [6, 2])),
  (10, [(.iload_n 2, 1, 0, 0)], (.ifCond .lt 19, 3, (0, 0, 0), [6, 3])),
  (14, [(.iload_n 2, 1, 0, 0), (.bipush 9, 2, 0, 0)], (.if_icmp .gt 13, 3, (0, 0, 0), [6, 4])),
  (20, [(.iload_n 3, 1, 0, 0)], (.ifCond .lt 9, 3, (0, 0, 0), [6, 5])),
  (24, [(.iload_n 3, 1, 0, 0), (.bipush 9, 2, 0, 0)], (.if_icmp .le 14, 3, (0, 0, 0), [7, 6])),
  (30, [], (.athrow, 0, (0, 344, 0), [])),
  (41, [(.aload_n 0, 1, 0, 0), (.getfield 10, 3, 11, 0), (.getfield 346, 3, 6, 18), (.iconst 0, 1, 0, 0), (.iaload, 1, 0, 0), (.istore 4, 2, 0, 0), (.aload_n 0, 1, 0, 0), (.getfield 10, 3, 11, 0), (.getfield 346, 3, 6, 18), (.iconst 0, 1, 0, 0), (.iload_n 1, 1, 0, 0), (.iastore, 1, 0, 0), (.aload_n 0, 1, 0, 0), (.getfield 10, 3, 11, 0), (.getfield 346, 3, 6, 18), (.iconst 1, 1, 0, 0), (.iload_n 2, 1, 0, 0), (.iastore, 1, 0, 0), (.aload_n 0, 1, 0, 0), (.getfield 10, 3, 11, 0), (.getfield 346, 3, 6, 18), (.iconst 2, 1, 0, 0), (.iload_n 3, 1, 0, 0), (.iastore, 1, 0, 0), (.iload 4, 2, 0, 0)], (.ireturn, 1, (0, 0, 0), []))])
def am_X11_weight : ab_M := (1, [], [
  (0, [(.aload_n 0, 1, 0, 0)], (.invokevirtual 260, 3, (165, 1, 11), [1])),
  (4, [(.aload_n 0, 1, 0, 0), (.getfield 31, 3, 11, 3), (.aload_n 0, 1, 0, 0), (.getfield 19, 3, 11, 1)], (.invokevirtual 349, 3, (22, 2, 2), [2])),
  (15, [], (.ireturn, 1, (0, 0, 0), []))])
def am_X11_best : ab_M := (2, [], [
  (0, [(.aload_n 0, 1, 0, 0), (.getfield 38, 3, 11, 4), (.aload_n 0, 1, 0, 0), (.getfield 10, 3, 11, 0)], (.invokevirtual 246, 3, (56, 1, 6), [1])),
  (11, [], (.invokevirtual 250, 3, (26, 2, 3), [2])),
  (14, [(.aload_n 0, 1, 0, 0), (.getfield 38, 3, 11, 4)], (.invokevirtual 352, 3, (40, 1, 3), [3])),
  (21, [(.aload_n 0, 1, 0, 0), (.getfield 47, 3, 11, 5)], (.invokevirtual 253, 3, (75, 1, 7), [4])),
  (28, [(.istore_n 1, 1, 0, 0), (.aload_n 0, 1, 0, 0), (.iload_n 1, 1, 0, 0)], (.invokevirtual 256, 3, (163, 2, 11), [5])),
  (34, [(.pop, 1, 0, 0), (.iload_n 1, 1, 0, 0)], (.ireturn, 1, (0, 0, 0), []))])
def am_X11_bound : ab_M := (1, [], [
  (0, [(.aload_n 0, 1, 0, 0), (.getfield 54, 3, 11, 6)], (.invokevirtual 225, 3, (104, 1, 10), [1])),
  (7, [(.aload_n 0, 1, 0, 0), (.getfield 54, 3, 11, 6)], (.invokevirtual 355, 3, (107, 1, 10), [2])),
  (14, [], (.ireturn, 1, (0, 0, 0), []))])
def am_X11_improve : ab_M := (1, [], [
  (0, [(.aload_n 0, 1, 0, 0)], (.invokevirtual 260, 3, (165, 1, 11), [1])),
  (4, [(.aload_n 0, 1, 0, 0), (.getfield 31, 3, 11, 3), (.aload_n 0, 1, 0, 0), (.getfield 19, 3, 11, 1)], (.invokevirtual 358, 3, (16, 2, 2), [2])),
  (15, [], (.ifCond .ne 14, 3, (0, 0, 0), [4, 3])),
  (18, [], (.athrow, 0, (1, 361, 0), [])),
  (29, [(.aload_n 0, 1, 0, 0), (.getfield 79, 3, 11, 9), (.aload_n 0, 1, 0, 0), (.getfield 19, 3, 11, 1)], (.invokevirtual 363, 3, (45, 2, 4), [5])),
  (40, [], (.ireturn, 1, (0, 0, 0), []))])
def am_X11_away : ab_M := (4, [], [
  (0, [(.aload_n 0, 1, 0, 0), (.iload_n 1, 1, 0, 0)], (.invokevirtual 177, 3, (167, 2, 11), [1])),
  (5, [(.aload_n 0, 1, 0, 0), (.iload_n 2, 1, 0, 0)], (.invokevirtual 366, 3, (170, 2, 11), [2])),
  (10, [(.aload_n 0, 1, 0, 0)], (.invokevirtual 260, 3, (165, 1, 11), [3])),
  (14, [(.aload_n 0, 1, 0, 0), (.getfield 38, 3, 11, 4), (.aload_n 0, 1, 0, 0), (.getfield 10, 3, 11, 0)], (.invokevirtual 246, 3, (56, 1, 6), [4])),
  (25, [], (.invokevirtual 250, 3, (26, 2, 3), [5])),
  (28, [(.aload_n 0, 1, 0, 0), (.getfield 38, 3, 11, 4), (.iload_n 1, 1, 0, 0), (.aload_n 0, 1, 0, 0), (.getfield 10, 3, 11, 0), (.iload_n 2, 1, 0, 0)], (.invokevirtual 369, 3, (60, 2, 6), [6])),
  (41, [], (.invokevirtual 372, 3, (38, 3, 3), [7])),
  (44, [(.aload_n 0, 1, 0, 0), (.getfield 38, 3, 11, 4), (.aload_n 0, 1, 0, 0), (.getfield 19, 3, 11, 1)], (.invokevirtual 376, 3, (41, 2, 3), [8])),
  (55, [(.aload_n 0, 1, 0, 0), (.getfield 47, 3, 11, 5)], (.invokevirtual 253, 3, (75, 1, 7), [9])),
  (62, [(.istore_n 3, 1, 0, 0), (.aload_n 0, 1, 0, 0), (.iload_n 3, 1, 0, 0)], (.invokevirtual 256, 3, (163, 2, 11), [10])),
  (68, [(.pop, 1, 0, 0), (.iload_n 3, 1, 0, 0)], (.ireturn, 1, (0, 0, 0), []))])
def am_X11_against : ab_M := (3, [], [
  (0, [(.aload_n 0, 1, 0, 0), (.iload_n 1, 1, 0, 0)], (.invokevirtual 177, 3, (167, 2, 11), [1])),
  (5, [(.aload_n 0, 1, 0, 0), (.iload_n 2, 1, 0, 0)], (.invokevirtual 366, 3, (170, 2, 11), [2])),
  (10, [(.aload_n 0, 1, 0, 0), (.getfield 63, 3, 11, 7), (.iload_n 1, 1, 0, 0), (.iload_n 2, 1, 0, 0)], (.invokevirtual 319, 3, (51, 3, 5), [3])),
  (19, [], (.ireturn, 1, (0, 0, 0), []))])
def am_X11_fairest : ab_M := (1, [], [
  (0, [(.aload_n 0, 1, 0, 0), (.getfield 38, 3, 11, 4), (.aload_n 0, 1, 0, 0), (.getfield 10, 3, 11, 0)], (.invokevirtual 246, 3, (56, 1, 6), [1])),
  (11, [], (.invokevirtual 250, 3, (26, 2, 3), [2])),
  (14, [(.aload_n 0, 1, 0, 0), (.getfield 38, 3, 11, 4)], (.invokevirtual 379, 3, (42, 1, 3), [3])),
  (21, [(.aload_n 0, 1, 0, 0), (.aload_n 0, 1, 0, 0), (.getfield 47, 3, 11, 5)], (.invokevirtual 253, 3, (75, 1, 7), [4])),
  (29, [], (.invokevirtual 256, 3, (163, 2, 11), [5])),
  (32, [], (.ireturn, 1, (1, 0, 0), []))])
def am_X11_examDays : ab_M := (2, [], [
  (0, [(.aload_n 0, 1, 0, 0), (.getfield 10, 3, 11, 0), (.iload_n 1, 1, 0, 0)], (.invokevirtual 385, 3, (57, 2, 6), [1])),
  (8, [], (.ifCond .ne 14, 3, (0, 0, 0), [3, 2])),
  (11, [], (.athrow, 0, (0, 388, 0), [])),
  (22, [(.aload_n 0, 1, 0, 0), (.getfield 86, 3, 11, 10), (.iload_n 1, 1, 0, 0)], (.invokevirtual 390, 3, (9, 2, 1), [4])),
  (30, [], (.ireturn, 1, (0, 0, 0), []))])
def am_X11_examDay : ab_M := (3, [], [
  (0, [(.aload_n 0, 1, 0, 0), (.iload_n 2, 1, 0, 0)], (.invokevirtual 222, 3, (166, 2, 11), [1])),
  (5, [(.aload_n 0, 1, 0, 0), (.getfield 10, 3, 11, 0), (.iload_n 1, 1, 0, 0)], (.invokevirtual 385, 3, (57, 2, 6), [2])),
  (13, [], (.ifCond .eq 11, 3, (0, 0, 0), [4, 3])),
  (16, [(.iload_n 1, 1, 0, 0), (.iload_n 2, 1, 0, 0), (.ishr, 1, 0, 0), (.iconst 1, 1, 0, 0), (.iand, 1, 0, 0)], (.ifCond .ne 14, 3, (0, 0, 0), [5, 4])),
  (24, [], (.athrow, 0, (0, 393, 0), [])),
  (35, [(.aload_n 0, 1, 0, 0), (.getfield 86, 3, 11, 10), (.iload_n 1, 1, 0, 0)], (.invokevirtual 390, 3, (9, 2, 1), [6])),
  (43, [(.pop, 1, 0, 0), (.aload_n 0, 1, 0, 0), (.getfield 86, 3, 11, 10), (.getfield 395, 3, 1, 1), (.iload_n 2, 1, 0, 0), (.iaload, 1, 0, 0)], (.ireturn, 1, (0, 0, 0), []))])
def am_X11_errors : ab_M := (3, [], [
  (0, [(.aload_n 0, 1, 0, 0), (.getfield 95, 3, 11, 11)], (.invokevirtual 405, 3, (1, 1, 0), [1])),
  (7, [], (.ifCond .ne 5, 3, (0, 0, 0), [3, 2])),
  (10, [(.iconst 0, 1, 0, 0)], (.ireturn, 1, (0, 0, 0), [])),
  (12, [(.aload_n 0, 1, 0, 0), (.getfield 95, 3, 11, 11), (.getfield 408, 3, 0, 6)], (.ifCond .eq 7, 3, (0, 0, 0), [5, 4])),
  (22, [(.iconst 1, 1, 0, 0)], (.goto 4, 3, (0, 0, 0), [6])),
  (26, [(.iconst 0, 1, 0, 0)], (.nop, 0, (0, 0, 0), [6])),
  (27, [(.istore_n 1, 1, 0, 0), (.aload_n 0, 1, 0, 0), (.getfield 95, 3, 11, 11), (.getfield 411, 3, 0, 5)], (.ifCond .eq 106, 3, (0, 0, 0), [22, 7])),
  (38, [(.aload_n 0, 1, 0, 0), (.getfield 38, 3, 11, 4), (.aload_n 0, 1, 0, 0), (.getfield 10, 3, 11, 0)], (.invokevirtual 246, 3, (56, 1, 6), [8])),
  (49, [], (.invokevirtual 250, 3, (26, 2, 3), [9])),
  (52, [(.aload_n 0, 1, 0, 0), (.getfield 47, 3, 11, 5)], (.invokevirtual 253, 3, (75, 1, 7), [10])),
  (59, [(.iconst (-1), 1, 0, 0)], (.if_icmp .eq 23, 3, (0, 0, 0), [13, 11])),
  (63, [(.aload_n 0, 1, 0, 0), (.getfield 47, 3, 11, 5), (.getfield 414, 3, 7, 2), (.aload_n 0, 1, 0, 0), (.getfield 95, 3, 11, 11), (.getfield 417, 3, 0, 4)], (.invokevirtual 290, 3, (101, 2, 9), [12])),
  (80, [], (.ifCond .le 6, 3, (0, 0, 0), [14, 13])),
  (83, [(.iinc 1 1, 3, 0, 0)], (.nop, 0, (0, 0, 0), [14])),
  (86, [(.aload_n 0, 1, 0, 0), (.getfield 38, 3, 11, 4), (.aload_n 0, 1, 0, 0), (.getfield 10, 3, 11, 0)], (.invokevirtual 246, 3, (56, 1, 6), [15])),
  (97, [], (.invokevirtual 250, 3, (26, 2, 3), [16])),
  (100, [(.aload_n 0, 1, 0, 0), (.getfield 38, 3, 11, 4)], (.invokevirtual 352, 3, (40, 1, 3), [17])),
  (107, [(.aload_n 0, 1, 0, 0), (.getfield 47, 3, 11, 5), (.ldc_w 419, 3, 100000, 0), (.iconst 1, 1, 0, 0)], (.invokevirtual 420, 3, (74, 3, 7), [18])),
  (118, [(.istore_n 2, 1, 0, 0), (.iload_n 2, 1, 0, 0), (.iconst (-1), 1, 0, 0)], (.if_icmp .eq 17, 3, (0, 0, 0), [21, 19])),
  (124, [(.aload_n 0, 1, 0, 0), (.getfield 95, 3, 11, 11), (.getfield 424, 3, 0, 7), (.iload_n 2, 1, 0, 0)], (.if_icmp .ge 6, 3, (0, 0, 0), [21, 20])),
  (135, [(.iinc 1 1, 3, 0, 0)], (.nop, 0, (0, 0, 0), [21])),
  (138, [], (.goto 32, 3, (0, 0, 0), [27])),
  (141, [(.aload_n 0, 1, 0, 0), (.getfield 63, 3, 11, 7), (.iconst (-1), 1, 0, 0), (.iconst 0, 1, 0, 0)], (.invokevirtual 319, 3, (51, 3, 5), [23])),
  (150, [(.istore_n 2, 1, 0, 0), (.iload_n 2, 1, 0, 0), (.iconst (-1), 1, 0, 0)], (.if_icmp .eq 14, 3, (0, 0, 0), [26, 24])),
  (156, [(.aload_n 0, 1, 0, 0), (.getfield 95, 3, 11, 11), (.iload_n 2, 1, 0, 0)], (.invokevirtual 426, 3, (2, 2, 0), [25])),
  (164, [], (.ifCond .eq 6, 3, (0, 0, 0), [27, 26])),
  (167, [(.iinc 1 1, 3, 0, 0)], (.nop, 0, (0, 0, 0), [27])),
  (170, [(.iload_n 1, 1, 0, 0)], (.ireturn, 1, (0, 0, 0), []))])
def am_X11_take : ab_M := (2, [], [
  (0, [(.iload_n 1, 1, 0, 0), (.iconst (-1), 1, 0, 0)], (.if_icmp .ne 5, 3, (0, 0, 0), [2, 1])),
  (5, [(.iconst 0, 1, 0, 0)], (.ireturn, 1, (1, 0, 0), [])),
  (7, [(.aload_n 0, 1, 0, 0), (.getfield 19, 3, 11, 1), (.aload_n 0, 1, 0, 0), (.getfield 47, 3, 11, 5), (.getfield 414, 3, 7, 2)], (.invokevirtual 293, 3, (99, 2, 9), [3])),
  (21, [(.iconst 1, 1, 0, 0)], (.ireturn, 1, (1, 0, 0), []))])
def am_X11_needTimetable : ab_M := (1, [], [
  (0, [(.aload_n 0, 1, 0, 0), (.getfield 19, 3, 11, 1), (.getfield 135, 3, 9, 0)], (.ifCond .ne 14, 3, (0, 0, 0), [2, 1])),
  (10, [], (.athrow, 0, (1, 429, 0), [])),
  (21, [], (.return_, 1, (0, 0, 0), []))])
def am_X11_needLesson : ab_M := (2, [], [
  (0, [(.iload_n 1, 1, 0, 0)], (.ifCond .lt 14, 3, (0, 0, 0), [2, 1])),
  (4, [(.iload_n 1, 1, 0, 0), (.aload_n 0, 1, 0, 0), (.getfield 10, 3, 11, 0), (.getfield 182, 3, 6, 6)], (.if_icmp .lt 14, 3, (0, 0, 0), [3, 2])),
  (15, [], (.athrow, 0, (2, 431, 0), [])),
  (26, [], (.return_, 1, (0, 0, 0), []))])
def am_X11_needTeacher : ab_M := (2, [], [
  (0, [(.iload_n 1, 1, 0, 0)], (.ifCond .lt 14, 3, (0, 0, 0), [2, 1])),
  (4, [(.iload_n 1, 1, 0, 0), (.aload_n 0, 1, 0, 0), (.getfield 10, 3, 11, 0), (.getfield 157, 3, 6, 4)], (.if_icmp .lt 14, 3, (0, 0, 0), [3, 2])),
  (15, [], (.athrow, 0, (2, 433, 0), [])),
  (26, [], (.return_, 1, (0, 0, 0), []))])
def am_X11_needRoom : ab_M := (2, [], [
  (0, [(.iload_n 1, 1, 0, 0)], (.ifCond .lt 14, 3, (0, 0, 0), [2, 1])),
  (4, [(.iload_n 1, 1, 0, 0), (.aload_n 0, 1, 0, 0), (.getfield 10, 3, 11, 0), (.getfield 164, 3, 6, 5)], (.if_icmp .lt 14, 3, (0, 0, 0), [3, 2])),
  (15, [], (.athrow, 0, (2, 435, 0), [])),
  (26, [], (.return_, 1, (0, 0, 0), []))])
def am_X11_needSlot : ab_M := (2, [], [
  (0, [(.iload_n 1, 1, 0, 0)], (.ifCond .lt 14, 3, (0, 0, 0), [2, 1])),
  (4, [(.iload_n 1, 1, 0, 0), (.aload_n 0, 1, 0, 0), (.getfield 10, 3, 11, 0), (.getfield 132, 3, 6, 2)], (.if_icmp .lt 14, 3, (0, 0, 0), [3, 2])),
  (15, [], (.athrow, 0, (2, 437, 0), [])),
  (26, [], (.return_, 1, (0, 0, 0), []))])
def am_X11_needDay : ab_M := (2, [], [
  (0, [(.iload_n 1, 1, 0, 0)], (.ifCond .lt 14, 3, (0, 0, 0), [2, 1])),
  (4, [(.iload_n 1, 1, 0, 0), (.aload_n 0, 1, 0, 0), (.getfield 10, 3, 11, 0), (.getfield 126, 3, 6, 0)], (.if_icmp .lt 14, 3, (0, 0, 0), [3, 2])),
  (15, [], (.athrow, 0, (2, 439, 0), [])),
  (26, [], (.return_, 1, (0, 0, 0), []))])
def am_X11_needRule : ab_M := (2, [], [
  (0, [(.iload_n 1, 1, 0, 0)], (.ifCond .lt 14, 3, (0, 0, 0), [2, 1])),
  (4, [(.iload_n 1, 1, 0, 0), (.aload_n 0, 1, 0, 0), (.getfield 10, 3, 11, 0), (.getfield 202, 3, 6, 7)], (.if_icmp .lt 13, 3, (0, 0, 0), [3, 2])),
  (15, [], (.athrow, 0, (2, 200, 0), [])),
  (25, [], (.return_, 1, (0, 0, 0), []))])
def am_J6_bitCount_0f7a4 : ab_M := (1, [], [
  (0, [(.iload_n 0, 1, 0, 0), (.iload_n 0, 1, 0, 0), (.iconst 1, 1, 0, 0), (.iushr, 1, 0, 0), (.ldc_w 265, 3, 1431655765, 0), (.iand, 1, 0, 0), (.isub, 1, 0, 0), (.istore_n 0, 1, 0, 0), (.iload_n 0, 1, 0, 0), (.ldc_w 266, 3, 858993459, 0), (.iand, 1, 0, 0), (.iload_n 0, 1, 0, 0), (.iconst 2, 1, 0, 0), (.iushr, 1, 0, 0), (.ldc_w 266, 3, 858993459, 0), (.iand, 1, 0, 0), (.iadd, 1, 0, 0), (.istore_n 0, 1, 0, 0), (.iload_n 0, 1, 0, 0), (.iload_n 0, 1, 0, 0), (.iconst 4, 1, 0, 0), (.iushr, 1, 0, 0), (.iadd, 1, 0, 0), (.ldc_w 267, 3, 252645135, 0), (.iand, 1, 0, 0), (.istore_n 0, 1, 0, 0), (.iload_n 0, 1, 0, 0), (.iload_n 0, 1, 0, 0), (.bipush 8, 2, 0, 0), (.iushr, 1, 0, 0), (.iadd, 1, 0, 0), (.istore_n 0, 1, 0, 0), (.iload_n 0, 1, 0, 0), (.iload_n 0, 1, 0, 0), (.bipush 16, 2, 0, 0), (.iushr, 1, 0, 0), (.iadd, 1, 0, 0), (.istore_n 0, 1, 0, 0), (.iload_n 0, 1, 0, 0), (.bipush 63, 2, 0, 0), (.iand, 1, 0, 0)], (.ireturn, 1, (0, 0, 0), []))])
def am_J7_fill_53178 : ab_M := (4, [], [
  (0, [(.iconst 0, 1, 0, 0), (.istore_n 2, 1, 0, 0), (.aload_n 0, 1, 0, 0), (.arraylength, 1, 0, 0), (.istore_n 3, 1, 0, 0)], (.nop, 0, (0, 0, 0), [1])),
  (5, [(.iload_n 2, 1, 0, 0), (.iload_n 3, 1, 0, 0)], (.if_icmp .ge 13, 3, (0, 0, 0), [3, 2])),
  (10, [(.aload_n 0, 1, 0, 0), (.iload_n 2, 1, 0, 0), (.iload_n 1, 1, 0, 0), (.iastore, 1, 0, 0), (.iinc 2 1, 3, 0, 0)], (.goto (-12), 3, (0, 0, 0), [1])),
  (20, [], (.return_, 1, (0, 0, 0), []))])
def am_J6_numberOfLeadingZeros_0f7a4 : ab_M := (2, [], [
  (0, [(.iload_n 0, 1, 0, 0)], (.ifCond .gt 14, 3, (0, 0, 0), [5, 1])),
  (4, [(.iload_n 0, 1, 0, 0)], (.ifCond .ne 8, 3, (0, 0, 0), [3, 2])),
  (8, [(.bipush 32, 2, 0, 0)], (.goto 4, 3, (0, 0, 0), [4])),
  (13, [(.iconst 0, 1, 0, 0)], (.nop, 0, (0, 0, 0), [4])),
  (14, [], (.ireturn, 1, (0, 0, 0), [])),
  (15, [(.bipush 31, 2, 0, 0), (.istore_n 1, 1, 0, 0), (.iload_n 0, 1, 0, 0), (.ldc_w 264, 3, 65536, 0)], (.if_icmp .lt 11, 3, (0, 0, 0), [7, 6])),
  (25, [(.iinc 1 (-16), 3, 0, 0), (.iload_n 0, 1, 0, 0), (.bipush 16, 2, 0, 0), (.iushr, 1, 0, 0), (.istore_n 0, 1, 0, 0)], (.nop, 0, (0, 0, 0), [7])),
  (33, [(.iload_n 0, 1, 0, 0), (.sipush 256, 3, 0, 0)], (.if_icmp .lt 11, 3, (0, 0, 0), [9, 8])),
  (40, [(.iinc 1 (-8), 3, 0, 0), (.iload_n 0, 1, 0, 0), (.bipush 8, 2, 0, 0), (.iushr, 1, 0, 0), (.istore_n 0, 1, 0, 0)], (.nop, 0, (0, 0, 0), [9])),
  (48, [(.iload_n 0, 1, 0, 0), (.bipush 16, 2, 0, 0)], (.if_icmp .lt 10, 3, (0, 0, 0), [11, 10])),
  (54, [(.iinc 1 (-4), 3, 0, 0), (.iload_n 0, 1, 0, 0), (.iconst 4, 1, 0, 0), (.iushr, 1, 0, 0), (.istore_n 0, 1, 0, 0)], (.nop, 0, (0, 0, 0), [11])),
  (61, [(.iload_n 0, 1, 0, 0), (.iconst 4, 1, 0, 0)], (.if_icmp .lt 10, 3, (0, 0, 0), [13, 12])),
  (66, [(.iinc 1 (-2), 3, 0, 0), (.iload_n 0, 1, 0, 0), (.iconst 2, 1, 0, 0), (.iushr, 1, 0, 0), (.istore_n 0, 1, 0, 0)], (.nop, 0, (0, 0, 0), [13])),
  (73, [(.iload_n 1, 1, 0, 0), (.iload_n 0, 1, 0, 0), (.iconst 1, 1, 0, 0), (.iushr, 1, 0, 0), (.isub, 1, 0, 0)], (.ireturn, 1, (0, 0, 0), []))])
def am_X12_init : ab_M := (1, [], [
  (0, [(.aload_n 0, 1, 0, 0), (.invokespecial 1, 3, 0, 0), (.aload_n 0, 1, 0, 0), (.iconst 3, 1, 0, 0), (.newarray .int, 2, 0, 0), (.putfield 7, 3, 12, 3), (.aload_n 0, 1, 0, 0), (.iconst 4, 1, 0, 0), (.newarray .int, 2, 0, 0), (.putfield 13, 3, 12, 5), (.aload_n 0, 1, 0, 0), (.iconst 4, 1, 0, 0), (.newarray .int, 2, 0, 0), (.putfield 16, 3, 12, 6), (.aload_n 0, 1, 0, 0), (.bipush 6, 2, 0, 0), (.newarray .int, 2, 0, 0), (.putfield 19, 3, 12, 9), (.aload_n 0, 1, 0, 0), (.bipush 6, 2, 0, 0), (.newarray .int, 2, 0, 0), (.putfield 22, 3, 12, 10), (.aload_n 0, 1, 0, 0), (.bipush 6, 2, 0, 0), (.newarray .int, 2, 0, 0), (.putfield 25, 3, 12, 11), (.aload_n 0, 1, 0, 0), (.bipush 10, 2, 0, 0), (.newarray .int, 2, 0, 0), (.putfield 28, 3, 12, 13), (.aload_n 0, 1, 0, 0), (.bipush 10, 2, 0, 0), (.newarray .int, 2, 0, 0), (.putfield 31, 3, 12, 14), (.aload_n 0, 1, 0, 0), (.bipush 10, 2, 0, 0), (.newarray .int, 2, 0, 0), (.putfield 34, 3, 12, 15), (.aload_n 0, 1, 0, 0), (.iconst 3, 1, 0, 0), (.newarray .int, 2, 0, 0), (.dup, 1, 0, 0), (.iconst 0, 1, 0, 0), (.iconst 1, 1, 0, 0), (.iastore, 1, 0, 0), (.dup, 1, 0, 0), (.iconst 1, 1, 0, 0), (.iconst 1, 1, 0, 0), (.iastore, 1, 0, 0), (.dup, 1, 0, 0), (.iconst 2, 1, 0, 0), (.iconst 1, 1, 0, 0), (.iastore, 1, 0, 0), (.putfield 37, 3, 12, 16), (.aload_n 0, 1, 0, 0), (.sipush 2000, 3, 0, 0), (.anewarray 40, 3, 0, 0), (.putfield 41, 3, 12, 17), (.aload_n 0, 1, 0, 0), (.sipush 2000, 3, 0, 0), (.newarray .int, 2, 0, 0), (.putfield 45, 3, 12, 18)], (.return_, 1, (0, 0, 0), []))])
def am_X12_slots : ab_M := (1, [], [
  (0, [(.aload_n 0, 1, 0, 0), (.getfield 48, 3, 12, 0), (.aload_n 0, 1, 0, 0), (.getfield 52, 3, 12, 1), (.imul, 1, 0, 0)], (.ireturn, 1, (0, 0, 0), []))])
def am_X12_covers : ab_M := (4, [], [
  (0, [(.iload_n 2, 1, 0, 0), (.bipush 10, 2, 0, 0), (.idiv, 1, 0, 0), (.istore_n 3, 1, 0, 0), (.iconst 1, 1, 0, 0), (.iload_n 3, 1, 0, 0), (.ishl, 1, 0, 0), (.aload_n 0, 1, 0, 0), (.getfield 25, 3, 12, 11), (.iload_n 1, 1, 0, 0), (.iaload, 1, 0, 0), (.iconst 2, 1, 0, 0)], (.if_icmp .ne 19, 3, (0, 0, 0), [4, 1])),
  (18, [(.iload_n 3, 1, 0, 0), (.iconst 1, 1, 0, 0), (.iadd, 1, 0, 0), (.aload_n 0, 1, 0, 0)], (.invokevirtual 55, 3, (281, 1, 12), [2])),
  (25, [], (.if_icmp .ge 9, 3, (0, 0, 0), [4, 3])),
  (28, [(.iconst 2, 1, 0, 0), (.iload_n 3, 1, 0, 0), (.ishl, 1, 0, 0)], (.goto 4, 3, (0, 0, 0), [5])),
  (34, [(.iconst 0, 1, 0, 0)], (.nop, 0, (0, 0, 0), [5])),
  (35, [(.ior, 1, 0, 0)], (.ireturn, 1, (0, 0, 0), []))])
def am_X12_last : ab_M := (3, [], [
  (0, [(.bipush 31, 2, 0, 0), (.aload_n 0, 1, 0, 0), (.iload_n 1, 1, 0, 0), (.iload_n 2, 1, 0, 0)], (.invokevirtual 59, 3, (282, 3, 12), [1])),
  (8, [], (.invokestatic 63, 3, (279, 1, 200), [2])),
  (11, [(.isub, 1, 0, 0)], (.ireturn, 1, (0, 0, 0), []))])
def am_X12_fits : ab_M := (3, [], [
  (0, [(.iload_n 2, 1, 0, 0), (.bipush 10, 2, 0, 0), (.idiv, 1, 0, 0), (.aload_n 0, 1, 0, 0), (.getfield 52, 3, 12, 1), (.irem, 1, 0, 0), (.aload_n 0, 1, 0, 0), (.getfield 25, 3, 12, 11), (.iload_n 1, 1, 0, 0), (.iaload, 1, 0, 0), (.iadd, 1, 0, 0), (.aload_n 0, 1, 0, 0), (.getfield 52, 3, 12, 1)], (.if_icmp .gt 30, 3, (0, 0, 0), [3, 1])),
  (23, [(.aload_n 0, 1, 0, 0), (.getfield 7, 3, 12, 3), (.iload_n 2, 1, 0, 0), (.bipush 10, 2, 0, 0), (.irem, 1, 0, 0), (.iaload, 1, 0, 0), (.aload_n 0, 1, 0, 0), (.getfield 13, 3, 12, 5), (.aload_n 0, 1, 0, 0), (.getfield 19, 3, 12, 9), (.iload_n 1, 1, 0, 0), (.iaload, 1, 0, 0), (.iaload, 1, 0, 0)], (.if_icmp .lt 7, 3, (0, 0, 0), [3, 2])),
  (46, [(.iconst 1, 1, 0, 0)], (.goto 4, 3, (0, 0, 0), [4])),
  (50, [(.iconst 0, 1, 0, 0)], (.nop, 0, (0, 0, 0), [4])),
  (51, [], (.ireturn, 1, (1, 0, 0), []))])
def am_X12_busy : ab_M := (5, [], [
  (0, [(.iconst 0, 1, 0, 0), (.istore_n 3, 1, 0, 0), (.iconst 0, 1, 0, 0), (.istore 4, 2, 0, 0)], (.nop, 0, (0, 0, 0), [1])),
  (5, [(.iload 4, 2, 0, 0), (.aload_n 0, 1, 0, 0), (.getfield 69, 3, 12, 8)], (.if_icmp .ge 37, 3, (0, 0, 0), [7, 2])),
  (14, [(.iload_n 3, 1, 0, 0), (.aload_n 0, 1, 0, 0), (.getfield 22, 3, 12, 10), (.iload 4, 2, 0, 0), (.iaload, 1, 0, 0), (.iload_n 1, 1, 0, 0)], (.if_icmp .ne 16, 3, (0, 0, 0), [5, 3])),
  (26, [(.aload_n 0, 1, 0, 0), (.iload 4, 2, 0, 0), (.aload_n 2, 1, 0, 0), (.iload 4, 2, 0, 0), (.iaload, 1, 0, 0)], (.invokevirtual 59, 3, (282, 3, 12), [4])),
  (36, [], (.goto 4, 3, (0, 0, 0), [6])),
  (39, [(.iconst 0, 1, 0, 0)], (.nop, 0, (0, 0, 0), [6])),
  (40, [(.ior, 1, 0, 0), (.istore_n 3, 1, 0, 0), (.iinc 4 1, 3, 0, 0)], (.goto (-40), 3, (0, 0, 0), [1])),
  (48, [(.iload_n 3, 1, 0, 0)], (.ireturn, 1, (0, 0, 0), []))])
def am_X12_keeps : ab_M := (5, [], [
  (0, [(.aload_n 0, 1, 0, 0), (.getfield 28, 3, 12, 13), (.iload_n 1, 1, 0, 0), (.iaload, 1, 0, 0)], (.tableswitch 395 0 6 #[42, 78, 150, 181, 222, 260, 369], 42, (0, 0, 0), [1, 6, 16, 20, 24, 29, 37, 41])),
  (48, [(.aload_n 0, 1, 0, 0), (.aload_n 0, 1, 0, 0), (.getfield 31, 3, 12, 14), (.iload_n 1, 1, 0, 0), (.iaload, 1, 0, 0), (.aload_n 2, 1, 0, 0), (.aload_n 0, 1, 0, 0), (.getfield 31, 3, 12, 14), (.iload_n 1, 1, 0, 0), (.iaload, 1, 0, 0), (.iaload, 1, 0, 0)], (.invokevirtual 59, 3, (282, 3, 12), [2])),
  (66, [(.aload_n 0, 1, 0, 0), (.getfield 34, 3, 12, 15), (.iload_n 1, 1, 0, 0), (.iaload, 1, 0, 0), (.ishr, 1, 0, 0), (.iconst 1, 1, 0, 0), (.iand, 1, 0, 0)], (.ifCond .ne 7, 3, (0, 0, 0), [4, 3])),
  (78, [(.iconst 1, 1, 0, 0)], (.goto 4, 3, (0, 0, 0), [5])),
  (82, [(.iconst 0, 1, 0, 0)], (.nop, 0, (0, 0, 0), [5])),
  (83, [], (.ireturn, 1, (1, 0, 0), [])),
  (84, [(.iconst 1, 1, 0, 0), (.istore_n 3, 1, 0, 0), (.iconst 0, 1, 0, 0), (.istore 4, 2, 0, 0)], (.nop, 0, (0, 0, 0), [7])),
  (89, [(.iload 4, 2, 0, 0), (.aload_n 0, 1, 0, 0), (.getfield 48, 3, 12, 0)], (.if_icmp .ge 59, 3, (0, 0, 0), [15, 8])),
  (98, [(.iload_n 3, 1, 0, 0)], (.ifCond .eq 47, 3, (0, 0, 0), [13, 9])),
  (102, [(.aload_n 0, 1, 0, 0), (.aload_n 0, 1, 0, 0), (.getfield 31, 3, 12, 14), (.iload_n 1, 1, 0, 0), (.iaload, 1, 0, 0), (.aload_n 2, 1, 0, 0)], (.invokevirtual 72, 3, (285, 3, 12), [10])),
  (113, [(.iload 4, 2, 0, 0), (.aload_n 0, 1, 0, 0), (.getfield 52, 3, 12, 1), (.imul, 1, 0, 0), (.ishr, 1, 0, 0), (.iconst 1, 1, 0, 0), (.aload_n 0, 1, 0, 0), (.getfield 52, 3, 12, 1), (.ishl, 1, 0, 0), (.iconst 1, 1, 0, 0), (.isub, 1, 0, 0), (.iand, 1, 0, 0)], (.invokestatic 76, 3, (277, 1, 200), [11])),
  (133, [(.aload_n 0, 1, 0, 0), (.getfield 34, 3, 12, 15), (.iload_n 1, 1, 0, 0), (.iaload, 1, 0, 0)], (.if_icmp .gt 7, 3, (0, 0, 0), [13, 12])),
  (142, [(.iconst 1, 1, 0, 0)], (.goto 4, 3, (0, 0, 0), [14])),
  (146, [(.iconst 0, 1, 0, 0)], (.nop, 0, (0, 0, 0), [14])),
  (147, [(.istore_n 3, 1, 0, 0), (.iinc 4 1, 3, 0, 0)], (.goto (-62), 3, (0, 0, 0), [7])),
  (154, [(.iload_n 3, 1, 0, 0)], (.ireturn, 1, (1, 0, 0), [])),
  (156, [(.aload_n 2, 1, 0, 0), (.aload_n 0, 1, 0, 0), (.getfield 31, 3, 12, 14), (.iload_n 1, 1, 0, 0), (.iaload, 1, 0, 0), (.iaload, 1, 0, 0), (.bipush 10, 2, 0, 0), (.idiv, 1, 0, 0), (.aload_n 2, 1, 0, 0), (.aload_n 0, 1, 0, 0), (.getfield 34, 3, 12, 15), (.iload_n 1, 1, 0, 0), (.iaload, 1, 0, 0), (.iaload, 1, 0, 0), (.bipush 10, 2, 0, 0), (.idiv, 1, 0, 0)], (.if_icmp .ne 7, 3, (0, 0, 0), [18, 17])),
  (181, [(.iconst 1, 1, 0, 0)], (.goto 4, 3, (0, 0, 0), [19])),
  (185, [(.iconst 0, 1, 0, 0)], (.nop, 0, (0, 0, 0), [19])),
  (186, [], (.ireturn, 1, (1, 0, 0), [])),
  (187, [(.aload_n 2, 1, 0, 0), (.aload_n 0, 1, 0, 0), (.getfield 31, 3, 12, 14), (.iload_n 1, 1, 0, 0), (.iaload, 1, 0, 0), (.iaload, 1, 0, 0), (.bipush 10, 2, 0, 0), (.idiv, 1, 0, 0), (.aload_n 0, 1, 0, 0), (.getfield 52, 3, 12, 1), (.idiv, 1, 0, 0), (.aload_n 2, 1, 0, 0), (.aload_n 0, 1, 0, 0), (.getfield 34, 3, 12, 15), (.iload_n 1, 1, 0, 0), (.iaload, 1, 0, 0), (.iaload, 1, 0, 0), (.bipush 10, 2, 0, 0), (.idiv, 1, 0, 0), (.aload_n 0, 1, 0, 0), (.getfield 52, 3, 12, 1), (.idiv, 1, 0, 0)], (.if_icmp .eq 7, 3, (0, 0, 0), [22, 21])),
  (222, [(.iconst 1, 1, 0, 0)], (.goto 4, 3, (0, 0, 0), [23])),
  (226, [(.iconst 0, 1, 0, 0)], (.nop, 0, (0, 0, 0), [23])),
  (227, [], (.ireturn, 1, (1, 0, 0), [])),
  (228, [(.aload_n 0, 1, 0, 0), (.aload_n 0, 1, 0, 0), (.getfield 31, 3, 12, 14), (.iload_n 1, 1, 0, 0), (.iaload, 1, 0, 0), (.aload_n 2, 1, 0, 0), (.aload_n 0, 1, 0, 0), (.getfield 31, 3, 12, 14), (.iload_n 1, 1, 0, 0), (.iaload, 1, 0, 0), (.iaload, 1, 0, 0)], (.invokevirtual 79, 3, (283, 3, 12), [25])),
  (246, [(.aload_n 2, 1, 0, 0), (.aload_n 0, 1, 0, 0), (.getfield 34, 3, 12, 15), (.iload_n 1, 1, 0, 0), (.iaload, 1, 0, 0), (.iaload, 1, 0, 0), (.bipush 10, 2, 0, 0), (.idiv, 1, 0, 0)], (.if_icmp .ge 7, 3, (0, 0, 0), [27, 26])),
  (260, [(.iconst 1, 1, 0, 0)], (.goto 4, 3, (0, 0, 0), [28])),
  (264, [(.iconst 0, 1, 0, 0)], (.nop, 0, (0, 0, 0), [28])),
  (265, [], (.ireturn, 1, (1, 0, 0), [])),
  (266, [(.aload_n 2, 1, 0, 0), (.aload_n 0, 1, 0, 0), (.getfield 31, 3, 12, 14), (.iload_n 1, 1, 0, 0), (.iaload, 1, 0, 0), (.iaload, 1, 0, 0), (.bipush 10, 2, 0, 0), (.idiv, 1, 0, 0), (.aload_n 0, 1, 0, 0), (.getfield 52, 3, 12, 1), (.idiv, 1, 0, 0), (.aload_n 2, 1, 0, 0), (.aload_n 0, 1, 0, 0), (.getfield 34, 3, 12, 15), (.iload_n 1, 1, 0, 0), (.iaload, 1, 0, 0), (.iaload, 1, 0, 0), (.bipush 10, 2, 0, 0), (.idiv, 1, 0, 0), (.aload_n 0, 1, 0, 0), (.getfield 52, 3, 12, 1), (.idiv, 1, 0, 0)], (.if_icmp .ne 75, 3, (0, 0, 0), [35, 30])),
  (301, [(.aload_n 2, 1, 0, 0), (.aload_n 0, 1, 0, 0), (.getfield 34, 3, 12, 15), (.iload_n 1, 1, 0, 0), (.iaload, 1, 0, 0), (.iaload, 1, 0, 0), (.bipush 10, 2, 0, 0), (.idiv, 1, 0, 0), (.aload_n 0, 1, 0, 0), (.aload_n 0, 1, 0, 0), (.getfield 31, 3, 12, 14), (.iload_n 1, 1, 0, 0), (.iaload, 1, 0, 0), (.aload_n 2, 1, 0, 0), (.aload_n 0, 1, 0, 0), (.getfield 31, 3, 12, 14), (.iload_n 1, 1, 0, 0), (.iaload, 1, 0, 0), (.iaload, 1, 0, 0)], (.invokevirtual 79, 3, (283, 3, 12), [31])),
  (330, [(.iconst 1, 1, 0, 0), (.iadd, 1, 0, 0)], (.if_icmp .eq 37, 3, (0, 0, 0), [34, 32])),
  (335, [(.aload_n 2, 1, 0, 0), (.aload_n 0, 1, 0, 0), (.getfield 31, 3, 12, 14), (.iload_n 1, 1, 0, 0), (.iaload, 1, 0, 0), (.iaload, 1, 0, 0), (.bipush 10, 2, 0, 0), (.idiv, 1, 0, 0), (.aload_n 0, 1, 0, 0), (.aload_n 0, 1, 0, 0), (.getfield 34, 3, 12, 15), (.iload_n 1, 1, 0, 0), (.iaload, 1, 0, 0), (.aload_n 2, 1, 0, 0), (.aload_n 0, 1, 0, 0), (.getfield 34, 3, 12, 15), (.iload_n 1, 1, 0, 0), (.iaload, 1, 0, 0), (.iaload, 1, 0, 0)], (.invokevirtual 79, 3, (283, 3, 12), [33])),
  (364, [(.iconst 1, 1, 0, 0), (.iadd, 1, 0, 0)], (.if_icmp .ne 7, 3, (0, 0, 0), [35, 34])),
  (369, [(.iconst 1, 1, 0, 0)], (.goto 4, 3, (0, 0, 0), [36])),
  (373, [(.iconst 0, 1, 0, 0)], (.nop, 0, (0, 0, 0), [36])),
  (374, [], (.ireturn, 1, (1, 0, 0), [])),
  (375, [(.aload_n 2, 1, 0, 0), (.aload_n 0, 1, 0, 0), (.getfield 31, 3, 12, 14), (.iload_n 1, 1, 0, 0), (.iaload, 1, 0, 0), (.iaload, 1, 0, 0), (.bipush 10, 2, 0, 0), (.irem, 1, 0, 0), (.aload_n 0, 1, 0, 0), (.getfield 34, 3, 12, 15), (.iload_n 1, 1, 0, 0), (.iaload, 1, 0, 0)], (.if_icmp .ne 7, 3, (0, 0, 0), [39, 38])),
  (395, [(.iconst 1, 1, 0, 0)], (.goto 4, 3, (0, 0, 0), [40])),
  (399, [(.iconst 0, 1, 0, 0)], (.nop, 0, (0, 0, 0), [40])),
  (400, [], (.ireturn, 1, (1, 0, 0), [])),
  (401, [(.aload_n 0, 1, 0, 0), (.aload_n 0, 1, 0, 0), (.getfield 31, 3, 12, 14), (.iload_n 1, 1, 0, 0), (.iaload, 1, 0, 0), (.aload_n 2, 1, 0, 0)], (.invokevirtual 72, 3, (285, 3, 12), [42])),
  (412, [(.aload_n 0, 1, 0, 0), (.getfield 34, 3, 12, 15), (.iload_n 1, 1, 0, 0), (.iaload, 1, 0, 0), (.ishr, 1, 0, 0), (.iconst 1, 1, 0, 0), (.iand, 1, 0, 0)], (.ifCond .ne 7, 3, (0, 0, 0), [44, 43])),
  (424, [(.iconst 1, 1, 0, 0)], (.goto 4, 3, (0, 0, 0), [45])),
  (428, [(.iconst 0, 1, 0, 0)], (.nop, 0, (0, 0, 0), [45])),
  (429, [], (.ireturn, 1, (1, 0, 0), []))])
def am_X12_isGround : ab_M := (6, [], [
  (0, [(.iconst 1, 1, 0, 0), (.istore_n 3, 1, 0, 0), (.iconst 0, 1, 0, 0), (.istore 4, 2, 0, 0)], (.nop, 0, (0, 0, 0), [1])),
  (5, [(.iload 4, 2, 0, 0), (.iload_n 2, 1, 0, 0)], (.if_icmp .ge 101, 3, (0, 0, 0), [15, 2])),
  (11, [(.aload_n 0, 1, 0, 0), (.getfield 19, 3, 12, 9), (.iload 4, 2, 0, 0), (.iaload, 1, 0, 0), (.aload_n 0, 1, 0, 0), (.getfield 19, 3, 12, 9), (.iload_n 2, 1, 0, 0), (.iaload, 1, 0, 0)], (.if_icmp .eq 35, 3, (0, 0, 0), [5, 3])),
  (27, [(.aload_n 0, 1, 0, 0), (.getfield 22, 3, 12, 10), (.iload 4, 2, 0, 0), (.iaload, 1, 0, 0), (.aload_n 0, 1, 0, 0), (.getfield 22, 3, 12, 10), (.iload_n 2, 1, 0, 0), (.iaload, 1, 0, 0)], (.if_icmp .eq 19, 3, (0, 0, 0), [5, 4])),
  (43, [(.aload_n 1, 1, 0, 0), (.iload 4, 2, 0, 0), (.iaload, 1, 0, 0), (.bipush 10, 2, 0, 0), (.irem, 1, 0, 0), (.aload_n 1, 1, 0, 0), (.iload_n 2, 1, 0, 0), (.iaload, 1, 0, 0), (.bipush 10, 2, 0, 0), (.irem, 1, 0, 0)], (.if_icmp .ne 7, 3, (0, 0, 0), [6, 5])),
  (59, [(.iconst 1, 1, 0, 0)], (.goto 4, 3, (0, 0, 0), [7])),
  (63, [(.iconst 0, 1, 0, 0)], (.nop, 0, (0, 0, 0), [7])),
  (64, [(.istore 5, 2, 0, 0), (.iload_n 3, 1, 0, 0)], (.ifCond .eq 34, 3, (0, 0, 0), [13, 8])),
  (70, [(.iload 5, 2, 0, 0)], (.ifCond .eq 25, 3, (0, 0, 0), [12, 9])),
  (75, [(.aload_n 0, 1, 0, 0), (.iload 4, 2, 0, 0), (.aload_n 1, 1, 0, 0), (.iload 4, 2, 0, 0), (.iaload, 1, 0, 0)], (.invokevirtual 59, 3, (282, 3, 12), [10])),
  (85, [(.aload_n 0, 1, 0, 0), (.iload_n 2, 1, 0, 0), (.aload_n 1, 1, 0, 0), (.iload_n 2, 1, 0, 0), (.iaload, 1, 0, 0)], (.invokevirtual 59, 3, (282, 3, 12), [11])),
  (93, [(.iand, 1, 0, 0)], (.ifCond .ne 7, 3, (0, 0, 0), [13, 12])),
  (97, [(.iconst 1, 1, 0, 0)], (.goto 4, 3, (0, 0, 0), [14])),
  (101, [(.iconst 0, 1, 0, 0)], (.nop, 0, (0, 0, 0), [14])),
  (102, [(.istore_n 3, 1, 0, 0), (.iinc 4 1, 3, 0, 0)], (.goto (-101), 3, (0, 0, 0), [1])),
  (109, [(.iload_n 3, 1, 0, 0)], (.ireturn, 1, (1, 0, 0), []))])
def am_X12_lists : ab_M := (5, [], [
  (0, [(.iload_n 2, 1, 0, 0), (.aload_n 0, 1, 0, 0), (.getfield 69, 3, 12, 8)], (.if_icmp .ne 118, 3, (0, 0, 0), [14, 1])),
  (8, [(.aload_n 0, 1, 0, 0), (.getfield 82, 3, 12, 19), (.aload_n 0, 1, 0, 0), (.getfield 41, 3, 12, 17), (.arraylength, 1, 0, 0)], (.if_icmp .ne 5, 3, (0, 0, 0), [3, 2])),
  (20, [(.iconst 0, 1, 0, 0)], (.ireturn, 1, (1, 0, 0), [])),
  (22, [(.aload_n 0, 1, 0, 0), (.getfield 41, 3, 12, 17), (.aload_n 0, 1, 0, 0), (.getfield 82, 3, 12, 19), (.aload_n 0, 1, 0, 0), (.getfield 69, 3, 12, 8), (.newarray .int, 2, 0, 0), (.aastore, 1, 0, 0), (.iconst 0, 1, 0, 0), (.istore_n 3, 1, 0, 0)], (.nop, 0, (0, 0, 0), [4])),
  (39, [(.iload_n 3, 1, 0, 0), (.aload_n 0, 1, 0, 0), (.getfield 69, 3, 12, 8)], (.if_icmp .ge 23, 3, (0, 0, 0), [6, 5])),
  (47, [(.aload_n 0, 1, 0, 0), (.getfield 41, 3, 12, 17), (.aload_n 0, 1, 0, 0), (.getfield 82, 3, 12, 19), (.aaload, 1, 0, 0), (.iload_n 3, 1, 0, 0), (.aload_n 1, 1, 0, 0), (.iload_n 3, 1, 0, 0), (.iaload, 1, 0, 0), (.iastore, 1, 0, 0), (.iinc 3 1, 3, 0, 0)], (.goto (-25), 3, (0, 0, 0), [4])),
  (67, [(.iconst 0, 1, 0, 0), (.istore_n 3, 1, 0, 0)], (.nop, 0, (0, 0, 0), [7])),
  (69, [(.iload_n 3, 1, 0, 0), (.aload_n 0, 1, 0, 0), (.getfield 85, 3, 12, 12)], (.if_icmp .ge 37, 3, (0, 0, 0), [13, 8])),
  (77, [(.aload_n 0, 1, 0, 0), (.getfield 45, 3, 12, 18), (.aload_n 0, 1, 0, 0), (.getfield 82, 3, 12, 19), (.dup2, 1, 0, 0), (.iaload, 1, 0, 0), (.aload_n 0, 1, 0, 0), (.iload_n 3, 1, 0, 0), (.aload_n 1, 1, 0, 0)], (.invokevirtual 88, 3, (286, 3, 12), [9])),
  (93, [], (.ifCond .eq 7, 3, (0, 0, 0), [11, 10])),
  (96, [(.iconst 0, 1, 0, 0)], (.goto 6, 3, (0, 0, 0), [12])),
  (100, [(.iconst 1, 1, 0, 0), (.iload_n 3, 1, 0, 0), (.ishl, 1, 0, 0)], (.nop, 0, (0, 0, 0), [12])),
  (103, [(.ior, 1, 0, 0), (.iastore, 1, 0, 0), (.iinc 3 1, 3, 0, 0)], (.goto (-39), 3, (0, 0, 0), [7])),
  (111, [(.aload_n 0, 1, 0, 0), (.dup, 1, 0, 0), (.getfield 82, 3, 12, 19), (.iconst 1, 1, 0, 0), (.iadd, 1, 0, 0), (.putfield 82, 3, 12, 19), (.iconst 1, 1, 0, 0)], (.ireturn, 1, (1, 0, 0), [])),
  (123, [(.iconst 0, 1, 0, 0), (.istore_n 3, 1, 0, 0)], (.nop, 0, (0, 0, 0), [15])),
  (125, [(.iload_n 3, 1, 0, 0), (.aload_n 0, 1, 0, 0)], (.invokevirtual 55, 3, (281, 1, 12), [16])),
  (130, [], (.if_icmp .ge 70, 3, (0, 0, 0), [28, 17])),
  (133, [(.iconst 0, 1, 0, 0), (.istore 4, 2, 0, 0)], (.nop, 0, (0, 0, 0), [18])),
  (136, [(.iload 4, 2, 0, 0), (.aload_n 0, 1, 0, 0), (.getfield 92, 3, 12, 2)], (.if_icmp .ge 52, 3, (0, 0, 0), [27, 19])),
  (145, [(.aload_n 1, 1, 0, 0), (.iload_n 2, 1, 0, 0), (.bipush 10, 2, 0, 0), (.iload_n 3, 1, 0, 0), (.imul, 1, 0, 0), (.iload 4, 2, 0, 0), (.iadd, 1, 0, 0), (.iastore, 1, 0, 0), (.aload_n 0, 1, 0, 0), (.iload_n 2, 1, 0, 0), (.aload_n 1, 1, 0, 0), (.iload_n 2, 1, 0, 0), (.iaload, 1, 0, 0)], (.invokevirtual 95, 3, (284, 3, 12), [20])),
  (163, [], (.ifCond .eq 25, 3, (0, 0, 0), [26, 21])),
  (166, [(.aload_n 0, 1, 0, 0), (.aload_n 1, 1, 0, 0), (.iload_n 2, 1, 0, 0)], (.invokevirtual 99, 3, (287, 3, 12), [22])),
  (172, [], (.ifCond .eq 16, 3, (0, 0, 0), [26, 23])),
  (175, [(.aload_n 0, 1, 0, 0), (.aload_n 1, 1, 0, 0), (.iload_n 2, 1, 0, 0), (.iconst 1, 1, 0, 0), (.iadd, 1, 0, 0)], (.invokevirtual 103, 3, (288, 3, 12), [24])),
  (183, [], (.ifCond .ne 5, 3, (0, 0, 0), [26, 25])),
  (186, [(.iconst 0, 1, 0, 0)], (.ireturn, 1, (1, 0, 0), [])),
  (188, [(.iinc 4 1, 3, 0, 0)], (.goto (-55), 3, (0, 0, 0), [18])),
  (194, [(.iinc 3 1, 3, 0, 0)], (.goto (-72), 3, (0, 0, 0), [15])),
  (200, [(.iconst 1, 1, 0, 0)], (.ireturn, 1, (1, 0, 0), []))])
def am_X12_canKeep : ab_M := (3, [], [
  (0, [(.iconst 0, 1, 0, 0), (.istore_n 2, 1, 0, 0)], (.nop, 0, (0, 0, 0), [1])),
  (2, [(.iload_n 2, 1, 0, 0), (.aload_n 0, 1, 0, 0), (.getfield 82, 3, 12, 19)], (.if_icmp .ge 22, 3, (0, 0, 0), [5, 2])),
  (10, [(.aload_n 0, 1, 0, 0), (.getfield 45, 3, 12, 18), (.iload_n 2, 1, 0, 0), (.iaload, 1, 0, 0), (.iload_n 1, 1, 0, 0), (.iand, 1, 0, 0)], (.ifCond .ne 5, 3, (0, 0, 0), [4, 3])),
  (21, [(.iconst 1, 1, 0, 0)], (.ireturn, 1, (1, 0, 0), [])),
  (23, [(.iinc 2 1, 3, 0, 0)], (.goto (-24), 3, (0, 0, 0), [1])),
  (29, [(.iconst 0, 1, 0, 0)], (.ireturn, 1, (1, 0, 0), []))])
def am_X12_weight : ab_M := (5, [], [
  (0, [(.iconst 0, 1, 0, 0), (.istore_n 2, 1, 0, 0), (.iconst 0, 1, 0, 0), (.istore_n 3, 1, 0, 0)], (.nop, 0, (0, 0, 0), [1])),
  (4, [(.iload_n 3, 1, 0, 0), (.aload_n 0, 1, 0, 0), (.getfield 69, 3, 12, 8)], (.if_icmp .ge 73, 3, (0, 0, 0), [8, 2])),
  (12, [(.aload_n 0, 1, 0, 0), (.getfield 16, 3, 12, 6), (.aload_n 0, 1, 0, 0), (.getfield 19, 3, 12, 9), (.iload_n 3, 1, 0, 0), (.iaload, 1, 0, 0), (.iaload, 1, 0, 0), (.istore 4, 2, 0, 0), (.iload_n 2, 1, 0, 0), (.aload_n 0, 1, 0, 0), (.getfield 37, 3, 12, 16), (.iconst 0, 1, 0, 0), (.iaload, 1, 0, 0), (.aload_n 0, 1, 0, 0), (.iload_n 3, 1, 0, 0), (.aload_n 1, 1, 0, 0), (.iload_n 3, 1, 0, 0), (.iaload, 1, 0, 0)], (.invokevirtual 79, 3, (283, 3, 12), [3])),
  (40, [(.aload_n 0, 1, 0, 0), (.getfield 52, 3, 12, 1), (.irem, 1, 0, 0), (.imul, 1, 0, 0), (.iload 4, 2, 0, 0), (.iconst (-1), 1, 0, 0)], (.if_icmp .eq 23, 3, (0, 0, 0), [6, 4])),
  (52, [(.iload 4, 2, 0, 0), (.aload_n 1, 1, 0, 0), (.iload_n 3, 1, 0, 0), (.iaload, 1, 0, 0), (.bipush 10, 2, 0, 0), (.irem, 1, 0, 0)], (.if_icmp .eq 12, 3, (0, 0, 0), [6, 5])),
  (63, [(.aload_n 0, 1, 0, 0), (.getfield 37, 3, 12, 16), (.iconst 1, 1, 0, 0), (.iaload, 1, 0, 0)], (.goto 4, 3, (0, 0, 0), [7])),
  (72, [(.iconst 0, 1, 0, 0)], (.nop, 0, (0, 0, 0), [7])),
  (73, [(.iadd, 1, 0, 0), (.iadd, 1, 0, 0), (.istore_n 2, 1, 0, 0), (.iinc 3 1, 3, 0, 0)], (.goto (-75), 3, (0, 0, 0), [1])),
  (82, [(.iconst 0, 1, 0, 0), (.istore_n 3, 1, 0, 0)], (.nop, 0, (0, 0, 0), [9])),
  (84, [(.iload_n 3, 1, 0, 0), (.aload_n 0, 1, 0, 0), (.getfield 106, 3, 12, 7)], (.if_icmp .ge 66, 3, (0, 0, 0), [19, 10])),
  (92, [(.iconst 0, 1, 0, 0), (.istore 4, 2, 0, 0)], (.nop, 0, (0, 0, 0), [11])),
  (95, [(.iload 4, 2, 0, 0), (.aload_n 0, 1, 0, 0), (.getfield 48, 3, 12, 0)], (.if_icmp .ge 48, 3, (0, 0, 0), [18, 12])),
  (104, [(.aload_n 0, 1, 0, 0), (.getfield 52, 3, 12, 1), (.iconst 3, 1, 0, 0)], (.if_icmp .ne 40, 3, (0, 0, 0), [18, 13])),
  (112, [(.iload_n 2, 1, 0, 0), (.aload_n 0, 1, 0, 0), (.iload_n 3, 1, 0, 0), (.aload_n 1, 1, 0, 0)], (.invokevirtual 72, 3, (285, 3, 12), [14])),
  (119, [(.iconst 3, 1, 0, 0), (.iload 4, 2, 0, 0), (.imul, 1, 0, 0), (.ishr, 1, 0, 0), (.bipush 7, 2, 0, 0), (.iand, 1, 0, 0), (.iconst 5, 1, 0, 0)], (.if_icmp .ne 12, 3, (0, 0, 0), [16, 15])),
  (131, [(.aload_n 0, 1, 0, 0), (.getfield 37, 3, 12, 16), (.iconst 2, 1, 0, 0), (.iaload, 1, 0, 0)], (.goto 4, 3, (0, 0, 0), [17])),
  (140, [(.iconst 0, 1, 0, 0)], (.nop, 0, (0, 0, 0), [17])),
  (141, [(.iadd, 1, 0, 0), (.istore_n 2, 1, 0, 0), (.iinc 4 1, 3, 0, 0)], (.goto (-51), 3, (0, 0, 0), [11])),
  (149, [(.iinc 3 1, 3, 0, 0)], (.goto (-68), 3, (0, 0, 0), [9])),
  (155, [(.iload_n 2, 1, 0, 0)], (.ireturn, 1, (0, 0, 0), []))])
def am_X12_shares : ab_M := (6, [], [
  (0, [(.aload_n 0, 1, 0, 0), (.getfield 106, 3, 12, 7), (.newarray .int, 2, 0, 0), (.astore_n 2, 1, 0, 0), (.iconst 0, 1, 0, 0), (.istore_n 3, 1, 0, 0)], (.nop, 0, (0, 0, 0), [1])),
  (9, [(.iload_n 3, 1, 0, 0), (.aload_n 0, 1, 0, 0), (.getfield 69, 3, 12, 8)], (.if_icmp .ge 47, 3, (0, 0, 0), [7, 2])),
  (17, [(.aload_n 2, 1, 0, 0), (.aload_n 0, 1, 0, 0), (.getfield 22, 3, 12, 10), (.iload_n 3, 1, 0, 0), (.iaload, 1, 0, 0), (.dup2, 1, 0, 0), (.iaload, 1, 0, 0), (.aload_n 0, 1, 0, 0), (.iload_n 3, 1, 0, 0), (.aload_n 1, 1, 0, 0), (.iload_n 3, 1, 0, 0), (.iaload, 1, 0, 0)], (.invokevirtual 79, 3, (283, 3, 12), [3])),
  (34, [(.aload_n 0, 1, 0, 0), (.getfield 52, 3, 12, 1), (.irem, 1, 0, 0), (.aload_n 0, 1, 0, 0), (.getfield 52, 3, 12, 1), (.iconst 1, 1, 0, 0), (.isub, 1, 0, 0)], (.if_icmp .ne 7, 3, (0, 0, 0), [5, 4])),
  (48, [(.iconst 1, 1, 0, 0)], (.goto 4, 3, (0, 0, 0), [6])),
  (52, [(.iconst 0, 1, 0, 0)], (.nop, 0, (0, 0, 0), [6])),
  (53, [(.iadd, 1, 0, 0), (.iastore, 1, 0, 0), (.iinc 3 1, 3, 0, 0)], (.goto (-49), 3, (0, 0, 0), [1])),
  (61, [(.iconst 0, 1, 0, 0), (.istore_n 3, 1, 0, 0), (.bipush 6, 2, 0, 0), (.istore 4, 2, 0, 0)], (.nop, 0, (0, 0, 0), [8])),
  (67, [(.iload 4, 2, 0, 0)], (.ifCond .lt 48, 3, (0, 0, 0), [16, 9])),
  (72, [(.iconst 0, 1, 0, 0), (.istore 5, 2, 0, 0)], (.nop, 0, (0, 0, 0), [10])),
  (75, [(.iload 5, 2, 0, 0), (.aload_n 0, 1, 0, 0), (.getfield 106, 3, 12, 7)], (.if_icmp .ge 30, 3, (0, 0, 0), [15, 11])),
  (84, [(.aload_n 2, 1, 0, 0), (.iload 5, 2, 0, 0), (.iaload, 1, 0, 0), (.iload 4, 2, 0, 0)], (.if_icmp .ne 13, 3, (0, 0, 0), [13, 12])),
  (93, [(.bipush 10, 2, 0, 0), (.iload_n 3, 1, 0, 0), (.imul, 1, 0, 0), (.iload 4, 2, 0, 0), (.iadd, 1, 0, 0)], (.goto 4, 3, (0, 0, 0), [14])),
  (103, [(.iload_n 3, 1, 0, 0)], (.nop, 0, (0, 0, 0), [14])),
  (104, [(.istore_n 3, 1, 0, 0), (.iinc 5 1, 3, 0, 0)], (.goto (-33), 3, (0, 0, 0), [10])),
  (111, [(.iinc 4 (-1), 3, 0, 0)], (.goto (-47), 3, (0, 0, 0), [8])),
  (117, [(.iload_n 3, 1, 0, 0)], (.ireturn, 1, (0, 0, 0), []))])
def am_L_next : ab_M := (2, [], [
  (0, [(.aload_n 0, 1, 0, 0), (.iconst 0, 1, 0, 0), (.aload_n 0, 1, 0, 0), (.iconst 0, 1, 0, 0), (.iaload, 1, 0, 0), (.ldc 7, 2, 1103515245, 0), (.imul, 1, 0, 0), (.sipush 12345, 3, 0, 0), (.iadd, 1, 0, 0), (.iastore, 1, 0, 0), (.aload_n 0, 1, 0, 0), (.iconst 0, 1, 0, 0), (.iaload, 1, 0, 0), (.bipush 8, 2, 0, 0), (.iushr, 1, 0, 0), (.iload_n 1, 1, 0, 0), (.irem, 1, 0, 0)], (.ireturn, 1, (0, 0, 0), []))])
def am_L_begin : ab_M := (9, [], [
  (0, [(.aload_n 1, 1, 0, 0), (.iconst 1, 1, 0, 0), (.aload_n 2, 1, 0, 0), (.iconst 2, 1, 0, 0)], (.invokestatic 8, 3, (292, 2, 200), [1])),
  (7, [(.iadd, 1, 0, 0), (.putfield 14, 3, 12, 0), (.aload_n 1, 1, 0, 0), (.iconst 1, 1, 0, 0), (.aload_n 2, 1, 0, 0), (.iconst 3, 1, 0, 0)], (.invokestatic 8, 3, (292, 2, 200), [2])),
  (18, [(.iadd, 1, 0, 0), (.putfield 20, 3, 12, 1), (.aload_n 0, 1, 0, 0), (.aload_n 1, 1, 0, 0), (.getfield 14, 3, 12, 0), (.aload_n 1, 1, 0, 0), (.getfield 20, 3, 12, 1)], (.invokevirtual 23, 3, (122, 3, 11), [3])),
  (34, [(.istore_n 3, 1, 0, 0), (.aload_n 1, 1, 0, 0), (.iconst 1, 1, 0, 0), (.aload_n 2, 1, 0, 0), (.iconst 3, 1, 0, 0)], (.invokestatic 8, 3, (292, 2, 200), [4])),
  (42, [(.iadd, 1, 0, 0), (.putfield 29, 3, 12, 2), (.iconst 0, 1, 0, 0), (.istore 4, 2, 0, 0)], (.nop, 0, (0, 0, 0), [5])),
  (49, [(.iload 4, 2, 0, 0), (.aload_n 1, 1, 0, 0), (.getfield 29, 3, 12, 2)], (.if_icmp .ge 38, 3, (0, 0, 0), [9, 6])),
  (58, [(.aload_n 1, 1, 0, 0), (.getfield 32, 3, 12, 3), (.iload 4, 2, 0, 0), (.bipush 10, 2, 0, 0), (.aload_n 2, 1, 0, 0), (.bipush 20, 2, 0, 0)], (.invokestatic 8, 3, (292, 2, 200), [7])),
  (72, [(.iadd, 1, 0, 0), (.iastore, 1, 0, 0), (.aload_n 0, 1, 0, 0), (.aload_n 1, 1, 0, 0), (.getfield 32, 3, 12, 3), (.iload 4, 2, 0, 0), (.iaload, 1, 0, 0)], (.invokevirtual 36, 3, (125, 2, 11), [8])),
  (85, [(.istore 5, 2, 0, 0), (.iinc 4 1, 3, 0, 0)], (.goto (-41), 3, (0, 0, 0), [5])),
  (93, [(.aload_n 1, 1, 0, 0), (.iconst 1, 1, 0, 0), (.aload_n 2, 1, 0, 0), (.iconst 3, 1, 0, 0)], (.invokestatic 8, 3, (292, 2, 200), [10])),
  (100, [(.iadd, 1, 0, 0), (.putfield 40, 3, 12, 4), (.iconst 0, 1, 0, 0), (.istore 4, 2, 0, 0)], (.nop, 0, (0, 0, 0), [11])),
  (107, [(.iload 4, 2, 0, 0), (.aload_n 1, 1, 0, 0), (.getfield 40, 3, 12, 4)], (.if_icmp .ge 63, 3, (0, 0, 0), [16, 12])),
  (116, [(.aload_n 1, 1, 0, 0), (.getfield 43, 3, 12, 5), (.iload 4, 2, 0, 0), (.iconst 5, 1, 0, 0), (.aload_n 2, 1, 0, 0), (.bipush 20, 2, 0, 0)], (.invokestatic 8, 3, (292, 2, 200), [13])),
  (129, [(.iadd, 1, 0, 0), (.iastore, 1, 0, 0), (.aload_n 1, 1, 0, 0), (.getfield 46, 3, 12, 6), (.iload 4, 2, 0, 0), (.aload_n 2, 1, 0, 0), (.aload_n 1, 1, 0, 0), (.getfield 29, 3, 12, 2), (.iconst 1, 1, 0, 0), (.iadd, 1, 0, 0)], (.invokestatic 8, 3, (292, 2, 200), [14])),
  (147, [(.iconst 1, 1, 0, 0), (.isub, 1, 0, 0), (.iastore, 1, 0, 0), (.aload_n 0, 1, 0, 0), (.aload_n 1, 1, 0, 0), (.getfield 43, 3, 12, 5), (.iload 4, 2, 0, 0), (.iaload, 1, 0, 0), (.aload_n 1, 1, 0, 0), (.getfield 46, 3, 12, 6), (.iload 4, 2, 0, 0), (.iaload, 1, 0, 0)], (.invokevirtual 49, 3, (123, 3, 11), [15])),
  (168, [(.istore 5, 2, 0, 0), (.iinc 4 1, 3, 0, 0)], (.goto (-66), 3, (0, 0, 0), [11])),
  (176, [(.aload_n 1, 1, 0, 0), (.iconst 1, 1, 0, 0), (.aload_n 2, 1, 0, 0), (.iconst 3, 1, 0, 0)], (.invokestatic 8, 3, (292, 2, 200), [17])),
  (183, [(.iadd, 1, 0, 0), (.putfield 52, 3, 12, 7), (.iconst 0, 1, 0, 0), (.istore 4, 2, 0, 0)], (.nop, 0, (0, 0, 0), [18])),
  (190, [(.iload 4, 2, 0, 0), (.aload_n 1, 1, 0, 0), (.getfield 52, 3, 12, 7)], (.if_icmp .ge 15, 3, (0, 0, 0), [21, 19])),
  (199, [(.aload_n 0, 1, 0, 0)], (.invokevirtual 55, 3, (124, 1, 11), [20])),
  (203, [(.istore 5, 2, 0, 0), (.iinc 4 1, 3, 0, 0)], (.goto (-18), 3, (0, 0, 0), [18])),
  (211, [(.aload_n 1, 1, 0, 0), (.iconst 1, 1, 0, 0), (.aload_n 2, 1, 0, 0), (.iconst 4, 1, 0, 0)], (.invokestatic 8, 3, (292, 2, 200), [22])),
  (218, [(.iadd, 1, 0, 0), (.putfield 59, 3, 12, 8), (.iconst 0, 1, 0, 0), (.istore 4, 2, 0, 0)], (.nop, 0, (0, 0, 0), [23])),
  (225, [(.iload 4, 2, 0, 0), (.aload_n 1, 1, 0, 0), (.getfield 59, 3, 12, 8)], (.if_icmp .ge 86, 3, (0, 0, 0), [32, 24])),
  (234, [(.aload_n 1, 1, 0, 0), (.getfield 62, 3, 12, 9), (.iload 4, 2, 0, 0), (.aload_n 2, 1, 0, 0), (.aload_n 1, 1, 0, 0), (.getfield 40, 3, 12, 4)], (.invokestatic 8, 3, (292, 2, 200), [25])),
  (248, [(.iastore, 1, 0, 0), (.aload_n 1, 1, 0, 0), (.getfield 65, 3, 12, 10), (.iload 4, 2, 0, 0), (.aload_n 2, 1, 0, 0), (.aload_n 1, 1, 0, 0), (.getfield 52, 3, 12, 7)], (.invokestatic 8, 3, (292, 2, 200), [26])),
  (263, [(.iastore, 1, 0, 0), (.aload_n 1, 1, 0, 0), (.getfield 68, 3, 12, 11), (.iload 4, 2, 0, 0), (.aload_n 2, 1, 0, 0), (.iconst 4, 1, 0, 0)], (.invokestatic 8, 3, (292, 2, 200), [27])),
  (275, [], (.ifCond .ne 7, 3, (0, 0, 0), [29, 28])),
  (278, [(.iconst 2, 1, 0, 0)], (.goto 4, 3, (0, 0, 0), [30])),
  (282, [(.iconst 1, 1, 0, 0)], (.nop, 0, (0, 0, 0), [30])),
  (283, [(.iastore, 1, 0, 0), (.aload_n 0, 1, 0, 0), (.aload_n 1, 1, 0, 0), (.getfield 62, 3, 12, 9), (.iload 4, 2, 0, 0), (.iaload, 1, 0, 0), (.aload_n 1, 1, 0, 0), (.getfield 65, 3, 12, 10), (.iload 4, 2, 0, 0), (.iaload, 1, 0, 0), (.aload_n 1, 1, 0, 0), (.getfield 68, 3, 12, 11), (.iload 4, 2, 0, 0), (.iaload, 1, 0, 0)], (.invokevirtual 71, 3, (126, 4, 11), [31])),
  (309, [(.istore 5, 2, 0, 0), (.iinc 4 1, 3, 0, 0)], (.goto (-89), 3, (0, 0, 0), [23])),
  (317, [(.aload_n 2, 1, 0, 0), (.bipush 7, 2, 0, 0)], (.invokestatic 8, 3, (292, 2, 200), [33])),
  (323, [(.istore 4, 2, 0, 0)], (.nop, 0, (0, 0, 0), [34])),
  (325, [(.iload 4, 2, 0, 0)], (.ifCond .le 174, 3, (0, 0, 0), [57, 35])),
  (330, [(.aload_n 2, 1, 0, 0), (.bipush 8, 2, 0, 0)], (.invokestatic 8, 3, (292, 2, 200), [36])),
  (336, [(.istore 5, 2, 0, 0), (.aload_n 2, 1, 0, 0), (.iload 5, 2, 0, 0), (.iconst 1, 1, 0, 0)], (.if_icmp .eq 10, 3, (0, 0, 0), [38, 37])),
  (345, [(.iload 5, 2, 0, 0), (.bipush 7, 2, 0, 0)], (.if_icmp .ne 10, 3, (0, 0, 0), [39, 38])),
  (352, [(.aload_n 1, 1, 0, 0), (.getfield 52, 3, 12, 7)], (.goto 7, 3, (0, 0, 0), [40])),
  (359, [(.aload_n 1, 1, 0, 0), (.getfield 59, 3, 12, 8)], (.nop, 0, (0, 0, 0), [40])),
  (363, [], (.invokestatic 8, 3, (292, 2, 200), [41])),
  (366, [(.istore 6, 2, 0, 0), (.aload_n 2, 1, 0, 0), (.iload 5, 2, 0, 0)], (.ifCond .eq 10, 3, (0, 0, 0), [43, 42])),
  (374, [(.iload 5, 2, 0, 0), (.bipush 7, 2, 0, 0)], (.if_icmp .ne 7, 3, (0, 0, 0), [44, 43])),
  (381, [(.iload_n 3, 1, 0, 0)], (.goto 31, 3, (0, 0, 0), [49])),
  (385, [(.iload 5, 2, 0, 0), (.iconst 1, 1, 0, 0)], (.if_icmp .ne 7, 3, (0, 0, 0), [46, 45])),
  (391, [(.iconst 4, 1, 0, 0)], (.goto 21, 3, (0, 0, 0), [49])),
  (395, [(.iload 5, 2, 0, 0), (.bipush 6, 2, 0, 0)], (.if_icmp .ne 10, 3, (0, 0, 0), [48, 47])),
  (402, [(.aload_n 1, 1, 0, 0), (.getfield 29, 3, 12, 2)], (.goto 7, 3, (0, 0, 0), [49])),
  (409, [(.aload_n 1, 1, 0, 0), (.getfield 59, 3, 12, 8)], (.nop, 0, (0, 0, 0), [49])),
  (413, [], (.invokestatic 8, 3, (292, 2, 200), [50])),
  (416, [(.istore 7, 2, 0, 0), (.iload 5, 2, 0, 0), (.iconst 2, 1, 0, 0)], (.if_icmp .lt 19, 3, (0, 0, 0), [54, 51])),
  (424, [(.iload 5, 2, 0, 0), (.iconst 5, 1, 0, 0)], (.if_icmp .gt 13, 3, (0, 0, 0), [54, 52])),
  (430, [(.iload 6, 2, 0, 0), (.iload 7, 2, 0, 0)], (.if_icmp .ne 6, 3, (0, 0, 0), [54, 53])),
  (437, [], (.goto 58, 3, (0, 0, 0), [56])),
  (440, [(.aload_n 1, 1, 0, 0), (.getfield 75, 3, 12, 13), (.aload_n 1, 1, 0, 0), (.getfield 78, 3, 12, 12), (.iload 5, 2, 0, 0), (.iastore, 1, 0, 0), (.aload_n 1, 1, 0, 0), (.getfield 81, 3, 12, 14), (.aload_n 1, 1, 0, 0), (.getfield 78, 3, 12, 12), (.iload 6, 2, 0, 0), (.iastore, 1, 0, 0), (.aload_n 1, 1, 0, 0), (.getfield 84, 3, 12, 15), (.aload_n 1, 1, 0, 0), (.getfield 78, 3, 12, 12), (.iload 7, 2, 0, 0), (.iastore, 1, 0, 0), (.aload_n 1, 1, 0, 0), (.dup, 1, 0, 0), (.getfield 78, 3, 12, 12), (.iconst 1, 1, 0, 0), (.iadd, 1, 0, 0), (.putfield 78, 3, 12, 12), (.aload_n 0, 1, 0, 0), (.iload 5, 2, 0, 0), (.iload 6, 2, 0, 0), (.iload 7, 2, 0, 0)], (.invokevirtual 87, 3, (127, 4, 11), [55])),
  (493, [(.istore 8, 2, 0, 0)], (.nop, 0, (0, 0, 0), [56])),
  (495, [(.iinc 4 (-1), 3, 0, 0)], (.goto (-173), 3, (0, 0, 0), [34])),
  (501, [(.iconst 0, 1, 0, 0), (.istore 4, 2, 0, 0)], (.nop, 0, (0, 0, 0), [58])),
  (504, [(.iload 4, 2, 0, 0), (.iconst 3, 1, 0, 0)], (.if_icmp .ge 21, 3, (0, 0, 0), [61, 59])),
  (510, [(.aload_n 1, 1, 0, 0), (.getfield 90, 3, 12, 16), (.iload 4, 2, 0, 0), (.aload_n 2, 1, 0, 0), (.iconst 5, 1, 0, 0)], (.invokestatic 8, 3, (292, 2, 200), [60])),
  (521, [(.iastore, 1, 0, 0), (.iinc 4 1, 3, 0, 0)], (.goto (-21), 3, (0, 0, 0), [58])),
  (528, [(.aload_n 0, 1, 0, 0), (.aload_n 1, 1, 0, 0), (.getfield 90, 3, 12, 16), (.iconst 0, 1, 0, 0), (.iaload, 1, 0, 0), (.aload_n 1, 1, 0, 0), (.getfield 90, 3, 12, 16), (.iconst 1, 1, 0, 0), (.iaload, 1, 0, 0), (.aload_n 1, 1, 0, 0), (.getfield 90, 3, 12, 16), (.iconst 2, 1, 0, 0), (.iaload, 1, 0, 0)], (.invokevirtual 93, 3, (147, 4, 11), [62])),
  (550, [(.istore 4, 2, 0, 0)], (.return_, 1, (0, 0, 0), []))])
def am_L_isTable : ab_M := (5, [], [
  (0, [(.iconst 1, 1, 0, 0), (.istore_n 3, 1, 0, 0), (.iconst 0, 1, 0, 0), (.istore 4, 2, 0, 0)], (.nop, 0, (0, 0, 0), [1])),
  (5, [(.iload 4, 2, 0, 0), (.aload_n 1, 1, 0, 0), (.getfield 59, 3, 12, 8)], (.if_icmp .ge 37, 3, (0, 0, 0), [8, 2])),
  (14, [(.iload_n 3, 1, 0, 0)], (.ifCond .eq 25, 3, (0, 0, 0), [6, 3])),
  (18, [(.aload_n 0, 1, 0, 0), (.iload 4, 2, 0, 0)], (.invokevirtual 96, 3, (134, 2, 11), [4])),
  (24, [(.aload_n 1, 1, 0, 0), (.getfield 99, 3, 12, 17), (.iload_n 2, 1, 0, 0), (.aaload, 1, 0, 0), (.iload 4, 2, 0, 0), (.iaload, 1, 0, 0)], (.if_icmp .ne 7, 3, (0, 0, 0), [6, 5])),
  (36, [(.iconst 1, 1, 0, 0)], (.goto 4, 3, (0, 0, 0), [7])),
  (40, [(.iconst 0, 1, 0, 0)], (.nop, 0, (0, 0, 0), [7])),
  (41, [(.istore_n 3, 1, 0, 0), (.iinc 4 1, 3, 0, 0)], (.goto (-40), 3, (0, 0, 0), [1])),
  (48, [(.iload_n 3, 1, 0, 0)], (.ireturn, 1, (1, 0, 0), []))])
def am_L_tables : ab_M := (11, [], [
  (0, [(.iconst 1, 1, 0, 0), (.istore_n 2, 1, 0, 0), (.iconst 0, 1, 0, 0), (.istore_n 3, 1, 0, 0), (.iconst (-1), 1, 0, 0), (.istore 4, 2, 0, 0), (.iconst (-1), 1, 0, 0), (.istore 5, 2, 0, 0), (.aload_n 1, 1, 0, 0), (.getfield 59, 3, 12, 8), (.newarray .int, 2, 0, 0), (.astore 6, 2, 0, 0), (.iconst 0, 1, 0, 0), (.istore 7, 2, 0, 0)], (.nop, 0, (0, 0, 0), [1])),
  (21, [(.iload 7, 2, 0, 0), (.aload_n 1, 1, 0, 0), (.getfield 103, 3, 12, 19)], (.if_icmp .ge 282, 3, (0, 0, 0), [56, 2])),
  (30, [(.aload_n 1, 1, 0, 0), (.getfield 106, 3, 12, 18), (.iload 7, 2, 0, 0), (.iaload, 1, 0, 0)], (.ifCond .eq 6, 3, (0, 0, 0), [4, 3])),
  (40, [], (.goto 263, 3, (0, 0, 0), [55])),
  (43, [(.iload 4, 2, 0, 0)], (.ifCond .lt 28, 3, (0, 0, 0), [8, 5])),
  (48, [(.aload_n 1, 1, 0, 0), (.aload_n 1, 1, 0, 0), (.getfield 99, 3, 12, 17), (.iload 7, 2, 0, 0), (.aaload, 1, 0, 0)], (.invokevirtual 109, 3, (290, 2, 12), [6])),
  (59, [(.aload_n 1, 1, 0, 0), (.aload_n 1, 1, 0, 0), (.getfield 99, 3, 12, 17), (.iload 4, 2, 0, 0), (.aaload, 1, 0, 0)], (.invokevirtual 109, 3, (290, 2, 12), [7])),
  (70, [], (.if_icmp .ge 8, 3, (0, 0, 0), [9, 8])),
  (73, [(.iload 7, 2, 0, 0)], (.goto 5, 3, (0, 0, 0), [10])),
  (78, [(.iload 4, 2, 0, 0)], (.nop, 0, (0, 0, 0), [10])),
  (80, [(.istore 4, 2, 0, 0), (.iload 5, 2, 0, 0)], (.ifCond .lt 28, 3, (0, 0, 0), [14, 11])),
  (87, [(.aload_n 1, 1, 0, 0), (.aload_n 1, 1, 0, 0), (.getfield 99, 3, 12, 17), (.iload 7, 2, 0, 0), (.aaload, 1, 0, 0)], (.invokevirtual 113, 3, (291, 2, 12), [12])),
  (98, [(.aload_n 1, 1, 0, 0), (.aload_n 1, 1, 0, 0), (.getfield 99, 3, 12, 17), (.iload 5, 2, 0, 0), (.aaload, 1, 0, 0)], (.invokevirtual 113, 3, (291, 2, 12), [13])),
  (109, [], (.if_icmp .ge 8, 3, (0, 0, 0), [15, 14])),
  (112, [(.iload 7, 2, 0, 0)], (.goto 5, 3, (0, 0, 0), [16])),
  (117, [(.iload 5, 2, 0, 0)], (.nop, 0, (0, 0, 0), [16])),
  (119, [(.istore 5, 2, 0, 0), (.iload_n 3, 1, 0, 0), (.bipush 12, 2, 0, 0)], (.if_icmp .ge 76, 3, (0, 0, 0), [36, 17])),
  (127, [(.iload_n 2, 1, 0, 0)], (.ifCond .eq 72, 3, (0, 0, 0), [36, 18])),
  (131, [(.iload_n 3, 1, 0, 0)], (.ifCond .ne 13, 3, (0, 0, 0), [22, 19])),
  (135, [(.aload_n 0, 1, 0, 0)], (.invokevirtual 116, 3, (131, 1, 11), [20])),
  (139, [], (.ifCond .eq 59, 3, (0, 0, 0), [34, 21])),
  (142, [], (.goto 10, 3, (0, 0, 0), [24])),
  (145, [(.aload_n 0, 1, 0, 0)], (.invokevirtual 120, 3, (132, 1, 11), [23])),
  (149, [], (.ifCond .eq 49, 3, (0, 0, 0), [34, 24])),
  (152, [(.aload_n 0, 1, 0, 0), (.aload_n 1, 1, 0, 0), (.iload 7, 2, 0, 0)], (.invokestatic 122, 3, (294, 3, 200), [25])),
  (159, [], (.ifCond .eq 39, 3, (0, 0, 0), [34, 26])),
  (162, [(.aload_n 0, 1, 0, 0)], (.invokevirtual 126, 3, (148, 1, 11), [27])),
  (166, [(.aload_n 1, 1, 0, 0), (.aload_n 1, 1, 0, 0), (.getfield 99, 3, 12, 17), (.iload 7, 2, 0, 0), (.aaload, 1, 0, 0)], (.invokevirtual 109, 3, (290, 2, 12), [28])),
  (177, [], (.if_icmp .ne 21, 3, (0, 0, 0), [34, 29])),
  (180, [(.aload_n 0, 1, 0, 0)], (.invokevirtual 128, 3, (135, 1, 11), [30])),
  (184, [], (.ifCond .ne 14, 3, (0, 0, 0), [34, 31])),
  (187, [(.aload_n 0, 1, 0, 0)], (.invokevirtual 130, 3, (136, 1, 11), [32])),
  (191, [], (.ifCond .ne 7, 3, (0, 0, 0), [34, 33])),
  (194, [(.iconst 1, 1, 0, 0)], (.goto 4, 3, (0, 0, 0), [35])),
  (198, [(.iconst 0, 1, 0, 0)], (.nop, 0, (0, 0, 0), [35])),
  (199, [(.istore_n 2, 1, 0, 0)], (.nop, 0, (0, 0, 0), [36])),
  (200, [(.iinc 3 1, 3, 0, 0), (.iconst 0, 1, 0, 0), (.istore 8, 2, 0, 0)], (.nop, 0, (0, 0, 0), [37])),
  (206, [(.iload 8, 2, 0, 0), (.aload_n 1, 1, 0, 0), (.getfield 59, 3, 12, 8)], (.if_icmp .ge 91, 3, (0, 0, 0), [55, 38])),
  (215, [(.iload_n 3, 1, 0, 0), (.bipush 40, 2, 0, 0)], (.if_icmp .le 7, 3, (0, 0, 0), [40, 39])),
  (221, [(.iconst 1, 1, 0, 0)], (.goto 4, 3, (0, 0, 0), [41])),
  (225, [(.iconst 0, 1, 0, 0)], (.nop, 0, (0, 0, 0), [41])),
  (226, [(.istore 9, 2, 0, 0), (.aload_n 0, 1, 0, 0), (.iload 8, 2, 0, 0)], (.invokevirtual 133, 3, (129, 2, 11), [42])),
  (234, [(.iconst 1, 1, 0, 0), (.isub, 1, 0, 0), (.istore 10, 2, 0, 0)], (.nop, 0, (0, 0, 0), [43])),
  (238, [(.iload 10, 2, 0, 0)], (.ifCond .lt 42, 3, (0, 0, 0), [50, 44])),
  (243, [(.iload 9, 2, 0, 0)], (.ifCond .ne 37, 3, (0, 0, 0), [50, 45])),
  (248, [(.aload_n 0, 1, 0, 0), (.iload 8, 2, 0, 0), (.iload 10, 2, 0, 0)], (.invokevirtual 136, 3, (130, 3, 11), [46])),
  (256, [(.aload_n 1, 1, 0, 0), (.getfield 99, 3, 12, 17), (.iload 7, 2, 0, 0), (.aaload, 1, 0, 0), (.iload 8, 2, 0, 0), (.iaload, 1, 0, 0)], (.if_icmp .ne 7, 3, (0, 0, 0), [48, 47])),
  (269, [(.iconst 1, 1, 0, 0)], (.goto 4, 3, (0, 0, 0), [49])),
  (273, [(.iconst 0, 1, 0, 0)], (.nop, 0, (0, 0, 0), [49])),
  (274, [(.istore 9, 2, 0, 0), (.iinc 10 (-1), 3, 0, 0)], (.goto (-41), 3, (0, 0, 0), [43])),
  (282, [(.iload_n 2, 1, 0, 0)], (.ifCond .eq 12, 3, (0, 0, 0), [53, 51])),
  (286, [(.iload 9, 2, 0, 0)], (.ifCond .eq 7, 3, (0, 0, 0), [53, 52])),
  (291, [(.iconst 1, 1, 0, 0)], (.goto 4, 3, (0, 0, 0), [54])),
  (295, [(.iconst 0, 1, 0, 0)], (.nop, 0, (0, 0, 0), [54])),
  (296, [(.istore_n 2, 1, 0, 0), (.iinc 8 1, 3, 0, 0)], (.goto (-94), 3, (0, 0, 0), [37])),
  (303, [(.iinc 7 1, 3, 0, 0)], (.goto (-285), 3, (0, 0, 0), [1])),
  (309, [(.iload_n 3, 1, 0, 0)], (.ifCond .ne 35, 3, (0, 0, 0), [67, 57])),
  (313, [(.iload_n 2, 1, 0, 0)], (.ifCond .eq 29, 3, (0, 0, 0), [65, 58])),
  (317, [(.aload_n 0, 1, 0, 0)], (.invokevirtual 116, 3, (131, 1, 11), [59])),
  (321, [], (.ifCond .ne 22, 3, (0, 0, 0), [65, 60])),
  (324, [(.aload_n 0, 1, 0, 0)], (.invokevirtual 139, 3, (149, 1, 11), [61])),
  (328, [(.iconst (-1), 1, 0, 0)], (.if_icmp .ne 14, 3, (0, 0, 0), [65, 62])),
  (332, [(.aload_n 0, 1, 0, 0)], (.invokevirtual 142, 3, (154, 1, 11), [63])),
  (336, [], (.ifCond .ne 7, 3, (0, 0, 0), [65, 64])),
  (339, [(.iconst 1, 1, 0, 0)], (.goto 4, 3, (0, 0, 0), [66])),
  (343, [(.iconst 0, 1, 0, 0)], (.nop, 0, (0, 0, 0), [66])),
  (344, [], (.ireturn, 1, (1, 0, 0), [])),
  (345, [(.iload_n 2, 1, 0, 0)], (.ifCond .eq 20, 3, (0, 0, 0), [72, 68])),
  (349, [(.iload_n 3, 1, 0, 0), (.bipush 12, 2, 0, 0)], (.if_icmp .gt 10, 3, (0, 0, 0), [71, 69])),
  (355, [(.aload_n 0, 1, 0, 0)], (.invokevirtual 120, 3, (132, 1, 11), [70])),
  (359, [], (.ifCond .ne 7, 3, (0, 0, 0), [72, 71])),
  (362, [(.iconst 1, 1, 0, 0)], (.goto 4, 3, (0, 0, 0), [73])),
  (366, [(.iconst 0, 1, 0, 0)], (.nop, 0, (0, 0, 0), [73])),
  (367, [(.istore_n 2, 1, 0, 0), (.aload_n 0, 1, 0, 0)], (.invokevirtual 139, 3, (149, 1, 11), [74])),
  (372, [(.istore 7, 2, 0, 0), (.iload_n 2, 1, 0, 0)], (.ifCond .eq 49, 3, (0, 0, 0), [84, 75])),
  (378, [(.iload 7, 2, 0, 0), (.aload_n 1, 1, 0, 0), (.aload_n 1, 1, 0, 0), (.getfield 99, 3, 12, 17), (.iload 4, 2, 0, 0), (.aaload, 1, 0, 0)], (.invokevirtual 109, 3, (290, 2, 12), [76])),
  (391, [], (.if_icmp .ne 33, 3, (0, 0, 0), [84, 77])),
  (394, [(.aload_n 0, 1, 0, 0), (.aload_n 1, 1, 0, 0), (.iload 4, 2, 0, 0)], (.invokestatic 122, 3, (294, 3, 200), [78])),
  (401, [], (.ifCond .eq 23, 3, (0, 0, 0), [84, 79])),
  (404, [(.aload_n 0, 1, 0, 0)], (.invokevirtual 145, 3, (150, 1, 11), [80])),
  (408, [], (.ifCond .lt 16, 3, (0, 0, 0), [84, 81])),
  (411, [(.aload_n 0, 1, 0, 0)], (.invokevirtual 145, 3, (150, 1, 11), [82])),
  (415, [(.iload 7, 2, 0, 0)], (.if_icmp .gt 7, 3, (0, 0, 0), [84, 83])),
  (420, [(.iconst 1, 1, 0, 0)], (.goto 4, 3, (0, 0, 0), [85])),
  (424, [(.iconst 0, 1, 0, 0)], (.nop, 0, (0, 0, 0), [85])),
  (425, [(.istore_n 2, 1, 0, 0), (.iload_n 2, 1, 0, 0)], (.ifCond .eq 24, 3, (0, 0, 0), [91, 86])),
  (430, [(.aload_n 0, 1, 0, 0)], (.invokevirtual 142, 3, (154, 1, 11), [87])),
  (434, [], (.ifCond .eq 17, 3, (0, 0, 0), [91, 88])),
  (437, [(.aload_n 0, 1, 0, 0), (.aload_n 1, 1, 0, 0), (.iload 5, 2, 0, 0)], (.invokestatic 122, 3, (294, 3, 200), [89])),
  (444, [], (.ifCond .eq 7, 3, (0, 0, 0), [91, 90])),
  (447, [(.iconst 1, 1, 0, 0)], (.goto 4, 3, (0, 0, 0), [92])),
  (451, [(.iconst 0, 1, 0, 0)], (.nop, 0, (0, 0, 0), [92])),
  (452, [], (.ireturn, 1, (1, 0, 0), []))])
def am_L_cores : ab_M := (10, [], [
  (0, [(.iconst 1, 1, 0, 0), (.aload_n 1, 1, 0, 0), (.getfield 78, 3, 12, 12), (.ishl, 1, 0, 0), (.iconst 1, 1, 0, 0), (.isub, 1, 0, 0), (.istore_n 2, 1, 0, 0), (.aload_n 0, 1, 0, 0)], (.invokevirtual 148, 3, (141, 1, 11), [1])),
  (13, [(.istore_n 3, 1, 0, 0), (.aload_n 1, 1, 0, 0), (.iload_n 2, 1, 0, 0)], (.invokevirtual 151, 3, (289, 2, 12), [2])),
  (19, [], (.ifCond .eq 21, 3, (0, 0, 0), [9, 3])),
  (22, [(.iload_n 3, 1, 0, 0), (.iconst (-1), 1, 0, 0)], (.if_icmp .ne 14, 3, (0, 0, 0), [7, 4])),
  (27, [(.aload_n 0, 1, 0, 0)], (.invokevirtual 155, 3, (142, 1, 11), [5])),
  (31, [], (.ifCond .ne 7, 3, (0, 0, 0), [7, 6])),
  (34, [(.iconst 1, 1, 0, 0)], (.goto 4, 3, (0, 0, 0), [8])),
  (38, [(.iconst 0, 1, 0, 0)], (.nop, 0, (0, 0, 0), [8])),
  (39, [], (.ireturn, 1, (1, 0, 0), [])),
  (40, [(.iload_n 3, 1, 0, 0)], (.ifCond .lt 15, 3, (0, 0, 0), [13, 10])),
  (44, [(.aload_n 1, 1, 0, 0), (.iload_n 3, 1, 0, 0)], (.invokevirtual 151, 3, (289, 2, 12), [11])),
  (49, [], (.ifCond .ne 7, 3, (0, 0, 0), [13, 12])),
  (52, [(.iconst 1, 1, 0, 0)], (.goto 4, 3, (0, 0, 0), [14])),
  (56, [(.iconst 0, 1, 0, 0)], (.nop, 0, (0, 0, 0), [14])),
  (57, [(.istore 4, 2, 0, 0), (.iconst 0, 1, 0, 0), (.istore 5, 2, 0, 0)], (.nop, 0, (0, 0, 0), [15])),
  (62, [(.iload 5, 2, 0, 0), (.aload_n 1, 1, 0, 0), (.getfield 78, 3, 12, 12)], (.if_icmp .ge 66, 3, (0, 0, 0), [26, 16])),
  (71, [(.iload 4, 2, 0, 0)], (.ifCond .eq 52, 3, (0, 0, 0), [24, 17])),
  (76, [(.iload_n 3, 1, 0, 0), (.iload 5, 2, 0, 0), (.ishr, 1, 0, 0), (.iconst 1, 1, 0, 0), (.iand, 1, 0, 0)], (.ifCond .eq 18, 3, (0, 0, 0), [20, 18])),
  (85, [(.aload_n 1, 1, 0, 0), (.iload_n 3, 1, 0, 0), (.iconst 1, 1, 0, 0), (.iload 5, 2, 0, 0), (.ishl, 1, 0, 0), (.iconst (-1), 1, 0, 0), (.ixor, 1, 0, 0), (.iand, 1, 0, 0)], (.invokevirtual 151, 3, (289, 2, 12), [19])),
  (97, [], (.ifCond .eq 28, 3, (0, 0, 0), [24, 20])),
  (100, [(.aload_n 0, 1, 0, 0), (.iload 5, 2, 0, 0)], (.invokevirtual 158, 3, (144, 2, 11), [21])),
  (106, [(.aload_n 1, 1, 0, 0), (.iload_n 2, 1, 0, 0), (.iconst 1, 1, 0, 0), (.iload 5, 2, 0, 0), (.ishl, 1, 0, 0), (.iconst (-1), 1, 0, 0), (.ixor, 1, 0, 0), (.iand, 1, 0, 0)], (.invokevirtual 151, 3, (289, 2, 12), [22])),
  (118, [], (.if_icmp .ne 7, 3, (0, 0, 0), [24, 23])),
  (121, [(.iconst 1, 1, 0, 0)], (.goto 4, 3, (0, 0, 0), [25])),
  (125, [(.iconst 0, 1, 0, 0)], (.nop, 0, (0, 0, 0), [25])),
  (126, [(.istore 4, 2, 0, 0), (.iinc 5 1, 3, 0, 0)], (.goto (-69), 3, (0, 0, 0), [15])),
  (134, [(.bipush 99, 2, 0, 0), (.istore 5, 2, 0, 0), (.iconst 0, 1, 0, 0), (.istore 6, 2, 0, 0), (.iconst 0, 1, 0, 0), (.istore 7, 2, 0, 0), (.iconst 0, 1, 0, 0), (.istore 8, 2, 0, 0)], (.nop, 0, (0, 0, 0), [27])),
  (147, [(.iload 8, 2, 0, 0), (.iload_n 2, 1, 0, 0)], (.if_icmp .gt 69, 3, (0, 0, 0), [40, 28])),
  (153, [(.iload 8, 2, 0, 0)], (.invokestatic 161, 3, (277, 1, 200), [29])),
  (158, [(.istore 9, 2, 0, 0), (.iload 9, 2, 0, 0), (.iload 5, 2, 0, 0)], (.if_icmp .gt 49, 3, (0, 0, 0), [39, 30])),
  (167, [(.aload_n 1, 1, 0, 0), (.iload 8, 2, 0, 0)], (.invokevirtual 151, 3, (289, 2, 12), [31])),
  (173, [], (.ifCond .ne 40, 3, (0, 0, 0), [39, 32])),
  (176, [(.iload 9, 2, 0, 0), (.iload 5, 2, 0, 0)], (.if_icmp .ge 7, 3, (0, 0, 0), [34, 33])),
  (183, [(.iconst 1, 1, 0, 0)], (.goto 7, 3, (0, 0, 0), [35])),
  (187, [(.iload 6, 2, 0, 0), (.iconst 1, 1, 0, 0), (.iadd, 1, 0, 0)], (.nop, 0, (0, 0, 0), [35])),
  (191, [(.istore 6, 2, 0, 0), (.iload 9, 2, 0, 0), (.iload 5, 2, 0, 0)], (.if_icmp .ge 8, 3, (0, 0, 0), [37, 36])),
  (200, [(.iload 8, 2, 0, 0)], (.goto 5, 3, (0, 0, 0), [38])),
  (205, [(.iload 7, 2, 0, 0)], (.nop, 0, (0, 0, 0), [38])),
  (207, [(.istore 7, 2, 0, 0), (.iload 9, 2, 0, 0), (.istore 5, 2, 0, 0)], (.nop, 0, (0, 0, 0), [39])),
  (213, [(.iinc 8 1, 3, 0, 0)], (.goto (-69), 3, (0, 0, 0), [27])),
  (219, [(.iload 4, 2, 0, 0)], (.ifCond .eq 26, 3, (0, 0, 0), [46, 41])),
  (224, [(.aload_n 0, 1, 0, 0)], (.invokevirtual 155, 3, (142, 1, 11), [42])),
  (228, [(.iload 6, 2, 0, 0)], (.if_icmp .ne 17, 3, (0, 0, 0), [46, 43])),
  (233, [(.aload_n 0, 1, 0, 0), (.iconst 0, 1, 0, 0)], (.invokevirtual 166, 3, (143, 2, 11), [44])),
  (238, [(.iload 7, 2, 0, 0)], (.if_icmp .ne 7, 3, (0, 0, 0), [46, 45])),
  (243, [(.iconst 1, 1, 0, 0)], (.goto 4, 3, (0, 0, 0), [47])),
  (247, [(.iconst 0, 1, 0, 0)], (.nop, 0, (0, 0, 0), [47])),
  (248, [], (.ireturn, 1, (1, 0, 0), []))])
def am_L_moves : ab_M := (14, [], [
  (0, [(.aload_n 2, 1, 0, 0), (.bipush 6, 2, 0, 0)], (.invokestatic 8, 3, (292, 2, 200), [1])),
  (6, [(.istore_n 3, 1, 0, 0), (.aload_n 0, 1, 0, 0)], (.invokevirtual 116, 3, (131, 1, 11), [2])),
  (11, [(.istore 4, 2, 0, 0), (.iconst 0, 1, 0, 0), (.istore 5, 2, 0, 0)], (.nop, 0, (0, 0, 0), [3])),
  (16, [(.iload 5, 2, 0, 0), (.iload_n 3, 1, 0, 0)], (.if_icmp .ge 20, 3, (0, 0, 0), [7, 4])),
  (22, [(.iload 4, 2, 0, 0)], (.ifCond .eq 15, 3, (0, 0, 0), [7, 5])),
  (27, [(.aload_n 0, 1, 0, 0)], (.invokevirtual 120, 3, (132, 1, 11), [6])),
  (31, [(.istore 6, 2, 0, 0), (.iinc 5 1, 3, 0, 0)], (.goto (-20), 3, (0, 0, 0), [3])),
  (39, [(.iload 4, 2, 0, 0)], (.ifCond .ne 5, 3, (0, 0, 0), [9, 8])),
  (44, [(.iconst 1, 1, 0, 0)], (.ireturn, 1, (1, 0, 0), [])),
  (46, [(.aload_n 2, 1, 0, 0), (.aload_n 1, 1, 0, 0), (.getfield 52, 3, 12, 7)], (.invokestatic 8, 3, (292, 2, 200), [10])),
  (54, [(.istore 5, 2, 0, 0), (.aload_n 2, 1, 0, 0), (.aload_n 1, 1, 0, 0), (.getfield 14, 3, 12, 0)], (.invokestatic 8, 3, (292, 2, 200), [11])),
  (64, [(.istore 6, 2, 0, 0), (.iconst (-1), 1, 0, 0), (.istore 7, 2, 0, 0), (.iconst (-1), 1, 0, 0), (.istore 8, 2, 0, 0), (.iconst 0, 1, 0, 0), (.istore 9, 2, 0, 0)], (.nop, 0, (0, 0, 0), [12])),
  (75, [(.iload 9, 2, 0, 0), (.aload_n 1, 1, 0, 0), (.getfield 103, 3, 12, 19)], (.if_icmp .ge 129, 3, (0, 0, 0), [28, 13])),
  (84, [(.aload_n 1, 1, 0, 0), (.iload 5, 2, 0, 0), (.aload_n 1, 1, 0, 0), (.getfield 99, 3, 12, 17), (.iload 9, 2, 0, 0), (.aaload, 1, 0, 0)], (.invokevirtual 169, 3, (285, 3, 12), [14])),
  (97, [(.iload 6, 2, 0, 0), (.aload_n 1, 1, 0, 0), (.getfield 20, 3, 12, 1), (.imul, 1, 0, 0), (.ishr, 1, 0, 0), (.iconst 1, 1, 0, 0), (.aload_n 1, 1, 0, 0), (.getfield 20, 3, 12, 1), (.ishl, 1, 0, 0), (.iconst 1, 1, 0, 0), (.isub, 1, 0, 0), (.iand, 1, 0, 0), (.istore 10, 2, 0, 0), (.aload_n 1, 1, 0, 0), (.getfield 106, 3, 12, 18), (.iload 9, 2, 0, 0), (.iaload, 1, 0, 0)], (.ifCond .ne 81, 3, (0, 0, 0), [27, 15])),
  (126, [(.iload 10, 2, 0, 0)], (.ifCond .eq 6, 3, (0, 0, 0), [17, 16])),
  (131, [], (.goto 73, 3, (0, 0, 0), [27])),
  (134, [(.iconst 0, 1, 0, 0), (.istore 11, 2, 0, 0), (.iconst 0, 1, 0, 0), (.istore 12, 2, 0, 0)], (.nop, 0, (0, 0, 0), [18])),
  (140, [(.iload 12, 2, 0, 0), (.aload_n 1, 1, 0, 0), (.getfield 59, 3, 12, 8)], (.if_icmp .ge 38, 3, (0, 0, 0), [24, 19])),
  (149, [(.iload 11, 2, 0, 0), (.aload_n 1, 1, 0, 0), (.getfield 99, 3, 12, 17), (.iload 9, 2, 0, 0), (.aaload, 1, 0, 0), (.iload 12, 2, 0, 0), (.iaload, 1, 0, 0), (.aload_n 0, 1, 0, 0), (.iload 12, 2, 0, 0)], (.invokevirtual 96, 3, (134, 2, 11), [20])),
  (167, [], (.if_icmp .ne 7, 3, (0, 0, 0), [22, 21])),
  (170, [(.iconst 0, 1, 0, 0)], (.goto 4, 3, (0, 0, 0), [23])),
  (174, [(.iconst 1, 1, 0, 0)], (.nop, 0, (0, 0, 0), [23])),
  (175, [(.iadd, 1, 0, 0), (.istore 11, 2, 0, 0), (.iinc 12 1, 3, 0, 0)], (.goto (-41), 3, (0, 0, 0), [18])),
  (184, [(.iload 8, 2, 0, 0)], (.ifCond .lt 10, 3, (0, 0, 0), [26, 25])),
  (189, [(.iload 11, 2, 0, 0), (.iload 7, 2, 0, 0)], (.if_icmp .ge 11, 3, (0, 0, 0), [27, 26])),
  (196, [(.iload 11, 2, 0, 0), (.istore 7, 2, 0, 0), (.iload 9, 2, 0, 0), (.istore 8, 2, 0, 0)], (.nop, 0, (0, 0, 0), [27])),
  (204, [(.iinc 9 1, 3, 0, 0)], (.goto (-132), 3, (0, 0, 0), [12])),
  (210, [(.aload_n 0, 1, 0, 0), (.iload 5, 2, 0, 0), (.iload 6, 2, 0, 0)], (.invokevirtual 173, 3, (153, 3, 11), [29])),
  (218, [(.iconst (-1), 1, 0, 0)], (.if_icmp .ne 7, 3, (0, 0, 0), [31, 30])),
  (222, [(.iconst 1, 1, 0, 0)], (.goto 4, 3, (0, 0, 0), [32])),
  (226, [(.iconst 0, 1, 0, 0)], (.nop, 0, (0, 0, 0), [32])),
  (227, [(.iload 8, 2, 0, 0)], (.ifCond .lt 7, 3, (0, 0, 0), [34, 33])),
  (232, [(.iconst 1, 1, 0, 0)], (.goto 4, 3, (0, 0, 0), [35])),
  (236, [(.iconst 0, 1, 0, 0)], (.nop, 0, (0, 0, 0), [35])),
  (237, [], (.if_icmp .ne 7, 3, (0, 0, 0), [37, 36])),
  (240, [(.iconst 1, 1, 0, 0)], (.goto 4, 3, (0, 0, 0), [38])),
  (244, [(.iconst 0, 1, 0, 0)], (.nop, 0, (0, 0, 0), [38])),
  (245, [(.istore 9, 2, 0, 0), (.aload_n 0, 1, 0, 0)], (.invokevirtual 176, 3, (137, 1, 11), [39])),
  (251, [(.istore 10, 2, 0, 0), (.iload 9, 2, 0, 0)], (.ifCond .eq 35, 3, (0, 0, 0), [46, 40])),
  (258, [(.aload_n 0, 1, 0, 0), (.iload 5, 2, 0, 0), (.iload 6, 2, 0, 0)], (.invokevirtual 179, 3, (152, 3, 11), [41])),
  (266, [(.iload 7, 2, 0, 0)], (.if_icmp .ne 22, 3, (0, 0, 0), [46, 42])),
  (271, [(.iload 8, 2, 0, 0)], (.ifCond .lt 13, 3, (0, 0, 0), [45, 43])),
  (276, [(.aload_n 0, 1, 0, 0), (.aload_n 1, 1, 0, 0), (.iload 8, 2, 0, 0)], (.invokestatic 122, 3, (294, 3, 200), [44])),
  (283, [], (.ifCond .eq 7, 3, (0, 0, 0), [46, 45])),
  (286, [(.iconst 1, 1, 0, 0)], (.goto 4, 3, (0, 0, 0), [47])),
  (290, [(.iconst 0, 1, 0, 0)], (.nop, 0, (0, 0, 0), [47])),
  (291, [(.istore 9, 2, 0, 0), (.aload_n 0, 1, 0, 0)], (.invokevirtual 182, 3, (138, 1, 11), [48])),
  (297, [(.istore 11, 2, 0, 0), (.iload 9, 2, 0, 0)], (.ifCond .eq 19, 3, (0, 0, 0), [52, 49])),
  (304, [(.iload 8, 2, 0, 0)], (.ifCond .lt 10, 3, (0, 0, 0), [51, 50])),
  (309, [(.iload 11, 2, 0, 0), (.iload 7, 2, 0, 0)], (.if_icmp .ne 7, 3, (0, 0, 0), [52, 51])),
  (316, [(.iconst 1, 1, 0, 0)], (.goto 4, 3, (0, 0, 0), [53])),
  (320, [(.iconst 0, 1, 0, 0)], (.nop, 0, (0, 0, 0), [53])),
  (321, [(.istore 9, 2, 0, 0), (.aload_n 0, 1, 0, 0)], (.invokevirtual 126, 3, (148, 1, 11), [54])),
  (327, [(.istore 12, 2, 0, 0), (.aload_n 0, 1, 0, 0)], (.invokevirtual 185, 3, (151, 1, 11), [55])),
  (333, [(.istore 13, 2, 0, 0), (.iload 9, 2, 0, 0)], (.ifCond .eq 38, 3, (0, 0, 0), [64, 56])),
  (340, [(.iload 13, 2, 0, 0)], (.ifCond .lt 33, 3, (0, 0, 0), [64, 57])),
  (345, [(.aload_n 0, 1, 0, 0)], (.invokevirtual 126, 3, (148, 1, 11), [58])),
  (349, [(.iload 12, 2, 0, 0), (.iload 13, 2, 0, 0), (.isub, 1, 0, 0)], (.if_icmp .ne 21, 3, (0, 0, 0), [64, 59])),
  (357, [(.aload_n 0, 1, 0, 0)], (.invokevirtual 128, 3, (135, 1, 11), [60])),
  (361, [], (.ifCond .ne 14, 3, (0, 0, 0), [64, 61])),
  (364, [(.aload_n 0, 1, 0, 0)], (.invokevirtual 130, 3, (136, 1, 11), [62])),
  (368, [], (.ifCond .ne 7, 3, (0, 0, 0), [64, 63])),
  (371, [(.iconst 1, 1, 0, 0)], (.goto 4, 3, (0, 0, 0), [65])),
  (375, [(.iconst 0, 1, 0, 0)], (.nop, 0, (0, 0, 0), [65])),
  (376, [], (.ireturn, 1, (1, 0, 0), []))])
def am_L_exams : ab_M := (15, [], [
  (0, [(.aload_n 2, 1, 0, 0), (.iconst 1, 1, 0, 0), (.aload_n 1, 1, 0, 0), (.getfield 59, 3, 12, 8), (.ishl, 1, 0, 0)], (.invokestatic 8, 3, (292, 2, 200), [1])),
  (10, [(.istore_n 3, 1, 0, 0), (.aload_n 0, 1, 0, 0), (.iload_n 3, 1, 0, 0)], (.invokevirtual 188, 3, (156, 2, 11), [2])),
  (16, [(.istore 4, 2, 0, 0), (.iload 4, 2, 0, 0)], (.ifCond .ne 7, 3, (0, 0, 0), [4, 3])),
  (23, [(.iconst 1, 1, 0, 0)], (.goto 4, 3, (0, 0, 0), [5])),
  (27, [(.iconst 0, 1, 0, 0)], (.nop, 0, (0, 0, 0), [5])),
  (28, [(.iload_n 3, 1, 0, 0)], (.ifCond .ne 7, 3, (0, 0, 0), [7, 6])),
  (32, [(.iconst 1, 1, 0, 0)], (.goto 4, 3, (0, 0, 0), [8])),
  (36, [(.iconst 0, 1, 0, 0)], (.nop, 0, (0, 0, 0), [8])),
  (37, [], (.if_icmp .ne 7, 3, (0, 0, 0), [10, 9])),
  (40, [(.iconst 1, 1, 0, 0)], (.goto 4, 3, (0, 0, 0), [11])),
  (44, [(.iconst 0, 1, 0, 0)], (.nop, 0, (0, 0, 0), [11])),
  (45, [(.istore 5, 2, 0, 0), (.iconst 0, 1, 0, 0), (.istore 6, 2, 0, 0)], (.nop, 0, (0, 0, 0), [12])),
  (50, [(.iload 6, 2, 0, 0), (.aload_n 1, 1, 0, 0), (.getfield 59, 3, 12, 8)], (.if_icmp .ge 165, 3, (0, 0, 0), [39, 13])),
  (59, [(.iconst 0, 1, 0, 0), (.istore 7, 2, 0, 0)], (.nop, 0, (0, 0, 0), [14])),
  (62, [(.iload 7, 2, 0, 0), (.iload 6, 2, 0, 0)], (.if_icmp .ge 116, 3, (0, 0, 0), [32, 15])),
  (69, [(.iload_n 3, 1, 0, 0), (.iload 6, 2, 0, 0), (.ishr, 1, 0, 0), (.iconst 1, 1, 0, 0), (.iand, 1, 0, 0), (.iconst 1, 1, 0, 0)], (.if_icmp .ne 17, 3, (0, 0, 0), [18, 16])),
  (79, [(.iload_n 3, 1, 0, 0), (.iload 7, 2, 0, 0), (.ishr, 1, 0, 0), (.iconst 1, 1, 0, 0), (.iand, 1, 0, 0), (.iconst 1, 1, 0, 0)], (.if_icmp .ne 7, 3, (0, 0, 0), [18, 17])),
  (89, [(.iconst 1, 1, 0, 0)], (.goto 4, 3, (0, 0, 0), [19])),
  (93, [(.iconst 0, 1, 0, 0)], (.nop, 0, (0, 0, 0), [19])),
  (94, [(.istore 8, 2, 0, 0), (.aload_n 1, 1, 0, 0), (.getfield 62, 3, 12, 9), (.iload 6, 2, 0, 0), (.iaload, 1, 0, 0), (.aload_n 1, 1, 0, 0), (.getfield 62, 3, 12, 9), (.iload 7, 2, 0, 0), (.iaload, 1, 0, 0)], (.if_icmp .eq 20, 3, (0, 0, 0), [21, 20])),
  (113, [(.aload_n 1, 1, 0, 0), (.getfield 65, 3, 12, 10), (.iload 6, 2, 0, 0), (.iaload, 1, 0, 0), (.aload_n 1, 1, 0, 0), (.getfield 65, 3, 12, 10), (.iload 7, 2, 0, 0), (.iaload, 1, 0, 0)], (.if_icmp .ne 7, 3, (0, 0, 0), [22, 21])),
  (130, [(.iconst 1, 1, 0, 0)], (.goto 4, 3, (0, 0, 0), [23])),
  (134, [(.iconst 0, 1, 0, 0)], (.nop, 0, (0, 0, 0), [23])),
  (135, [(.istore 9, 2, 0, 0), (.iload 5, 2, 0, 0)], (.ifCond .eq 34, 3, (0, 0, 0), [30, 24])),
  (142, [(.iload 8, 2, 0, 0)], (.ifCond .eq 25, 3, (0, 0, 0), [29, 25])),
  (147, [(.iload 9, 2, 0, 0)], (.ifCond .eq 20, 3, (0, 0, 0), [29, 26])),
  (152, [(.aload_n 0, 1, 0, 0), (.iload_n 3, 1, 0, 0), (.iload 6, 2, 0, 0)], (.invokevirtual 191, 3, (157, 3, 11), [27])),
  (159, [(.aload_n 0, 1, 0, 0), (.iload_n 3, 1, 0, 0), (.iload 7, 2, 0, 0)], (.invokevirtual 191, 3, (157, 3, 11), [28])),
  (166, [], (.if_icmp .eq 7, 3, (0, 0, 0), [30, 29])),
  (169, [(.iconst 1, 1, 0, 0)], (.goto 4, 3, (0, 0, 0), [31])),
  (173, [(.iconst 0, 1, 0, 0)], (.nop, 0, (0, 0, 0), [31])),
  (174, [(.istore 5, 2, 0, 0), (.iinc 7 1, 3, 0, 0)], (.goto (-117), 3, (0, 0, 0), [14])),
  (182, [(.iload 5, 2, 0, 0)], (.ifCond .eq 28, 3, (0, 0, 0), [37, 33])),
  (187, [(.iload_n 3, 1, 0, 0), (.iload 6, 2, 0, 0), (.ishr, 1, 0, 0), (.iconst 1, 1, 0, 0), (.iand, 1, 0, 0)], (.ifCond .eq 15, 3, (0, 0, 0), [36, 34])),
  (196, [(.aload_n 0, 1, 0, 0), (.iload_n 3, 1, 0, 0), (.iload 6, 2, 0, 0)], (.invokevirtual 191, 3, (157, 3, 11), [35])),
  (203, [(.iload 4, 2, 0, 0)], (.if_icmp .ge 7, 3, (0, 0, 0), [37, 36])),
  (208, [(.iconst 1, 1, 0, 0)], (.goto 4, 3, (0, 0, 0), [38])),
  (212, [(.iconst 0, 1, 0, 0)], (.nop, 0, (0, 0, 0), [38])),
  (213, [(.istore 5, 2, 0, 0), (.iinc 6 1, 3, 0, 0)], (.goto (-168), 3, (0, 0, 0), [12])),
  (221, [(.iconst 1, 1, 0, 0), (.istore 6, 2, 0, 0), (.iconst 0, 1, 0, 0), (.istore 7, 2, 0, 0)], (.nop, 0, (0, 0, 0), [40])),
  (227, [(.iload 7, 2, 0, 0), (.aload_n 1, 1, 0, 0), (.getfield 59, 3, 12, 8)], (.if_icmp .ge 22, 3, (0, 0, 0), [42, 41])),
  (236, [(.iload 6, 2, 0, 0), (.iconst 1, 1, 0, 0), (.iload 4, 2, 0, 0), (.iconst 1, 1, 0, 0), (.isub, 1, 0, 0), (.invokestatic 194, 3, 1, 0), (.imul, 1, 0, 0), (.istore 6, 2, 0, 0), (.iinc 7 1, 3, 0, 0)], (.goto (-25), 3, (0, 0, 0), [40])),
  (255, [(.iconst 0, 1, 0, 0), (.istore 7, 2, 0, 0)], (.nop, 0, (0, 0, 0), [43])),
  (258, [(.iload 7, 2, 0, 0), (.iload 6, 2, 0, 0)], (.if_icmp .ge 193, 3, (0, 0, 0), [67, 44])),
  (265, [(.iload 4, 2, 0, 0), (.iconst 1, 1, 0, 0)], (.if_icmp .le 187, 3, (0, 0, 0), [67, 45])),
  (271, [(.iconst 1, 1, 0, 0), (.istore 8, 2, 0, 0), (.aload_n 1, 1, 0, 0), (.getfield 59, 3, 12, 8), (.newarray .int, 2, 0, 0), (.astore 9, 2, 0, 0), (.iload 7, 2, 0, 0), (.istore 10, 2, 0, 0), (.iconst 0, 1, 0, 0), (.istore 11, 2, 0, 0)], (.nop, 0, (0, 0, 0), [46])),
  (289, [(.iload 11, 2, 0, 0), (.aload_n 1, 1, 0, 0), (.getfield 59, 3, 12, 8)], (.if_icmp .ge 137, 3, (0, 0, 0), [62, 47])),
  (298, [(.aload 9, 2, 0, 0), (.iload 11, 2, 0, 0), (.iload 10, 2, 0, 0), (.iload 4, 2, 0, 0), (.iconst 1, 1, 0, 0), (.isub, 1, 0, 0), (.irem, 1, 0, 0), (.iastore, 1, 0, 0), (.iload 10, 2, 0, 0), (.iload 4, 2, 0, 0), (.iconst 1, 1, 0, 0), (.isub, 1, 0, 0), (.idiv, 1, 0, 0), (.istore 10, 2, 0, 0), (.iconst 0, 1, 0, 0), (.istore 12, 2, 0, 0)], (.nop, 0, (0, 0, 0), [48])),
  (322, [(.iload 12, 2, 0, 0), (.iload 11, 2, 0, 0)], (.if_icmp .ge 100, 3, (0, 0, 0), [61, 49])),
  (329, [(.iload_n 3, 1, 0, 0), (.iload 11, 2, 0, 0), (.ishr, 1, 0, 0), (.iconst 1, 1, 0, 0), (.iand, 1, 0, 0), (.iconst 1, 1, 0, 0)], (.if_icmp .ne 17, 3, (0, 0, 0), [52, 50])),
  (339, [(.iload_n 3, 1, 0, 0), (.iload 12, 2, 0, 0), (.ishr, 1, 0, 0), (.iconst 1, 1, 0, 0), (.iand, 1, 0, 0), (.iconst 1, 1, 0, 0)], (.if_icmp .ne 7, 3, (0, 0, 0), [52, 51])),
  (349, [(.iconst 1, 1, 0, 0)], (.goto 4, 3, (0, 0, 0), [53])),
  (353, [(.iconst 0, 1, 0, 0)], (.nop, 0, (0, 0, 0), [53])),
  (354, [(.istore 13, 2, 0, 0), (.iload 8, 2, 0, 0)], (.ifCond .eq 59, 3, (0, 0, 0), [59, 54])),
  (361, [(.iload 13, 2, 0, 0)], (.ifCond .eq 50, 3, (0, 0, 0), [58, 55])),
  (366, [(.aload 9, 2, 0, 0), (.iload 12, 2, 0, 0), (.iaload, 1, 0, 0), (.aload 9, 2, 0, 0), (.iload 11, 2, 0, 0), (.iaload, 1, 0, 0)], (.if_icmp .ne 37, 3, (0, 0, 0), [58, 56])),
  (379, [(.aload_n 1, 1, 0, 0), (.getfield 62, 3, 12, 9), (.iload 11, 2, 0, 0), (.iaload, 1, 0, 0), (.aload_n 1, 1, 0, 0), (.getfield 62, 3, 12, 9), (.iload 12, 2, 0, 0), (.iaload, 1, 0, 0)], (.if_icmp .eq 24, 3, (0, 0, 0), [59, 57])),
  (396, [(.aload_n 1, 1, 0, 0), (.getfield 65, 3, 12, 10), (.iload 11, 2, 0, 0), (.iaload, 1, 0, 0), (.aload_n 1, 1, 0, 0), (.getfield 65, 3, 12, 10), (.iload 12, 2, 0, 0), (.iaload, 1, 0, 0)], (.if_icmp .eq 7, 3, (0, 0, 0), [59, 58])),
  (413, [(.iconst 1, 1, 0, 0)], (.goto 4, 3, (0, 0, 0), [60])),
  (417, [(.iconst 0, 1, 0, 0)], (.nop, 0, (0, 0, 0), [60])),
  (418, [(.istore 8, 2, 0, 0), (.iinc 12 1, 3, 0, 0)], (.goto (-101), 3, (0, 0, 0), [48])),
  (426, [(.iinc 11 1, 3, 0, 0)], (.goto (-140), 3, (0, 0, 0), [46])),
  (432, [(.iload 5, 2, 0, 0)], (.ifCond .eq 12, 3, (0, 0, 0), [65, 63])),
  (437, [(.iload 8, 2, 0, 0)], (.ifCond .ne 7, 3, (0, 0, 0), [65, 64])),
  (442, [(.iconst 1, 1, 0, 0)], (.goto 4, 3, (0, 0, 0), [66])),
  (446, [(.iconst 0, 1, 0, 0)], (.nop, 0, (0, 0, 0), [66])),
  (447, [(.istore 5, 2, 0, 0), (.iinc 7 1, 3, 0, 0)], (.goto (-194), 3, (0, 0, 0), [43])),
  (455, [(.iconst 0, 1, 0, 0), (.istore 7, 2, 0, 0)], (.nop, 0, (0, 0, 0), [68])),
  (458, [(.iload 7, 2, 0, 0), (.aload_n 1, 1, 0, 0), (.getfield 59, 3, 12, 8)], (.if_icmp .ge 33, 3, (0, 0, 0), [74, 69])),
  (467, [(.aload_n 0, 1, 0, 0), (.iload 7, 2, 0, 0), (.aload_n 2, 1, 0, 0), (.aload_n 1, 1, 0, 0)], (.invokevirtual 199, 3, (281, 1, 12), [70])),
  (475, [], (.invokestatic 8, 3, (292, 2, 200), [71])),
  (478, [(.aload_n 2, 1, 0, 0), (.aload_n 1, 1, 0, 0), (.getfield 29, 3, 12, 2)], (.invokestatic 8, 3, (292, 2, 200), [72])),
  (486, [], (.invokevirtual 202, 3, (133, 4, 11), [73])),
  (489, [(.istore 8, 2, 0, 0), (.iinc 7 1, 3, 0, 0)], (.goto (-36), 3, (0, 0, 0), [68])),
  (497, [(.aload_n 2, 1, 0, 0), (.aload_n 1, 1, 0, 0)], (.invokevirtual 199, 3, (281, 1, 12), [75])),
  (502, [], (.invokestatic 8, 3, (292, 2, 200), [76])),
  (505, [(.istore 7, 2, 0, 0), (.iconst 0, 1, 0, 0), (.istore 8, 2, 0, 0), (.iconst 0, 1, 0, 0), (.istore 9, 2, 0, 0)], (.nop, 0, (0, 0, 0), [77])),
  (513, [(.iload 9, 2, 0, 0), (.aload_n 1, 1, 0, 0), (.getfield 59, 3, 12, 8)], (.if_icmp .ge 31, 3, (0, 0, 0), [81, 78])),
  (522, [(.iload 8, 2, 0, 0), (.aload_n 1, 1, 0, 0), (.iload 9, 2, 0, 0), (.aload_n 0, 1, 0, 0), (.iload 9, 2, 0, 0)], (.invokevirtual 96, 3, (134, 2, 11), [79])),
  (533, [], (.invokevirtual 205, 3, (282, 3, 12), [80])),
  (536, [(.iload 7, 2, 0, 0), (.ishr, 1, 0, 0), (.iconst 1, 1, 0, 0), (.iand, 1, 0, 0), (.iadd, 1, 0, 0), (.istore 8, 2, 0, 0), (.iinc 9 1, 3, 0, 0)], (.goto (-34), 3, (0, 0, 0), [77])),
  (550, [(.aload_n 0, 1, 0, 0), (.iload 7, 2, 0, 0)], (.invokevirtual 208, 3, (146, 2, 11), [82])),
  (556, [(.istore 9, 2, 0, 0), (.aload_n 0, 1, 0, 0), (.iload 7, 2, 0, 0)], (.invokevirtual 211, 3, (145, 2, 11), [83])),
  (564, [(.istore 10, 2, 0, 0), (.iconst 0, 1, 0, 0), (.istore 11, 2, 0, 0), (.iconst 0, 1, 0, 0), (.istore 12, 2, 0, 0)], (.nop, 0, (0, 0, 0), [84])),
  (572, [(.iload 12, 2, 0, 0), (.aload_n 1, 1, 0, 0), (.getfield 29, 3, 12, 2)], (.if_icmp .ge 90, 3, (0, 0, 0), [97, 85])),
  (581, [(.iconst 0, 1, 0, 0), (.istore 13, 2, 0, 0), (.iconst 0, 1, 0, 0), (.istore 14, 2, 0, 0)], (.nop, 0, (0, 0, 0), [86])),
  (587, [(.iload 14, 2, 0, 0), (.aload_n 1, 1, 0, 0), (.getfield 59, 3, 12, 8)], (.if_icmp .ge 54, 3, (0, 0, 0), [93, 87])),
  (596, [(.iload 13, 2, 0, 0)], (.ifCond .ne 36, 3, (0, 0, 0), [90, 88])),
  (601, [(.iload 9, 2, 0, 0), (.iload 14, 2, 0, 0), (.ishr, 1, 0, 0), (.iconst 1, 1, 0, 0), (.iand, 1, 0, 0), (.iconst 1, 1, 0, 0)], (.if_icmp .ne 29, 3, (0, 0, 0), [91, 89])),
  (612, [(.aload_n 1, 1, 0, 0), (.getfield 32, 3, 12, 3), (.iload 12, 2, 0, 0), (.iaload, 1, 0, 0), (.aload_n 1, 1, 0, 0), (.getfield 43, 3, 12, 5), (.aload_n 1, 1, 0, 0), (.getfield 62, 3, 12, 9), (.iload 14, 2, 0, 0), (.iaload, 1, 0, 0), (.iaload, 1, 0, 0)], (.if_icmp .lt 7, 3, (0, 0, 0), [91, 90])),
  (634, [(.iconst 1, 1, 0, 0)], (.goto 4, 3, (0, 0, 0), [92])),
  (638, [(.iconst 0, 1, 0, 0)], (.nop, 0, (0, 0, 0), [92])),
  (639, [(.istore 13, 2, 0, 0), (.iinc 14 1, 3, 0, 0)], (.goto (-57), 3, (0, 0, 0), [86])),
  (647, [(.iload 11, 2, 0, 0), (.iload 13, 2, 0, 0)], (.ifCond .eq 7, 3, (0, 0, 0), [95, 94])),
  (654, [(.iconst 1, 1, 0, 0)], (.goto 4, 3, (0, 0, 0), [96])),
  (658, [(.iconst 0, 1, 0, 0)], (.nop, 0, (0, 0, 0), [96])),
  (659, [(.iadd, 1, 0, 0), (.istore 11, 2, 0, 0), (.iinc 12 1, 3, 0, 0)], (.goto (-93), 3, (0, 0, 0), [84])),
  (668, [(.iload 5, 2, 0, 0)], (.ifCond .eq 54, 3, (0, 0, 0), [110, 98])),
  (673, [(.iload 9, 2, 0, 0)], (.ifCond .ne 7, 3, (0, 0, 0), [100, 99])),
  (678, [(.iconst 1, 1, 0, 0)], (.goto 4, 3, (0, 0, 0), [101])),
  (682, [(.iconst 0, 1, 0, 0)], (.nop, 0, (0, 0, 0), [101])),
  (683, [(.iload 10, 2, 0, 0), (.iload 8, 2, 0, 0)], (.if_icmp .ne 7, 3, (0, 0, 0), [103, 102])),
  (690, [(.iconst 1, 1, 0, 0)], (.goto 4, 3, (0, 0, 0), [104])),
  (694, [(.iconst 0, 1, 0, 0)], (.nop, 0, (0, 0, 0), [104])),
  (695, [], (.if_icmp .ne 29, 3, (0, 0, 0), [110, 105])),
  (698, [(.iload 9, 2, 0, 0)], (.ifCond .eq 13, 3, (0, 0, 0), [108, 106])),
  (703, [(.iload 9, 2, 0, 0)], (.invokestatic 161, 3, (277, 1, 200), [107])),
  (708, [(.iload 11, 2, 0, 0)], (.if_icmp .le 14, 3, (0, 0, 0), [110, 108])),
  (713, [(.iload 10, 2, 0, 0), (.iload 8, 2, 0, 0)], (.if_icmp .gt 7, 3, (0, 0, 0), [110, 109])),
  (720, [(.iconst 1, 1, 0, 0)], (.goto 4, 3, (0, 0, 0), [111])),
  (724, [(.iconst 0, 1, 0, 0)], (.nop, 0, (0, 0, 0), [111])),
  (725, [], (.ireturn, 1, (1, 0, 0), []))])
def am_X8_fitsSome : ab_M := (4, [], [
  (0, [(.iconst 0, 1, 0, 0), (.istore_n 3, 1, 0, 0)], (.nop, 0, (0, 0, 0), [1])),
  (2, [(.iload_n 3, 1, 0, 0), (.aload_n 0, 1, 0, 0), (.getfield 7, 3, 8, 0), (.getfield 38, 3, 6, 6)], (.if_icmp .ge 31, 3, (0, 0, 0), [7, 2])),
  (13, [(.iload_n 1, 1, 0, 0), (.iload_n 3, 1, 0, 0), (.ishr, 1, 0, 0), (.iconst 1, 1, 0, 0), (.iand, 1, 0, 0)], (.ifCond .eq 17, 3, (0, 0, 0), [6, 3])),
  (21, [(.aload_n 0, 1, 0, 0), (.getfield 7, 3, 8, 0), (.iload_n 3, 1, 0, 0), (.iload_n 2, 1, 0, 0)], (.invokevirtual 41, 3, (65, 3, 6), [4])),
  (30, [], (.ifCond .eq 5, 3, (0, 0, 0), [6, 5])),
  (33, [(.iconst 1, 1, 0, 0)], (.ireturn, 1, (1, 0, 0), [])),
  (35, [(.iinc 3 1, 3, 0, 0)], (.goto (-36), 3, (0, 0, 0), [1])),
  (41, [(.iconst 0, 1, 0, 0)], (.ireturn, 1, (1, 0, 0), []))])
abbrev aq_X0_init : ab_Q := (yX0_init, cX0_init, none, true, [])
abbrev aq_X0_enumerate : ab_Q := (yX0_enumerate, cX0_enumerate, (some .boolean), false, [])
abbrev aq_X0_someKeeps : ab_Q := (yX0_someKeeps, cX0_someKeeps, (some .boolean), false, [])
abbrev aq_X0_countTimetables : ab_Q := (yX0_countTimetables, cX0_countTimetables, (some .int), false, [])
abbrev aq_X0_stands : ab_Q := (yX0_stands, cX0_stands, (some .boolean), false, [])
abbrev aq_X0_walk : ab_Q := (yX0_walk, cX0_walk, none, false, [])
abbrev aq_X0_clashesWithNone : ab_Q := (yX0_clashesWithNone, cX0_clashesWithNone, (some .boolean), false, [])
abbrev aq_X0_look : ab_Q := (yX0_look, cX0_look, none, false, [])
abbrev aq_X1_init : ab_Q := (yX1_init, cX1_init, none, true, [])
abbrev aq_X1_spread : ab_Q := (yX1_spread, cX1_spread, (some .int), false, [])
abbrev aq_X1_fill : ab_Q := (yX1_fill, cX1_fill, (some .boolean), false, [])
abbrev aq_X1_isFree : ab_Q := (yX1_isFree, cX1_isFree, (some .boolean), false, [])
abbrev aq_X2_init : ab_Q := (yX2_init, cX2_init, none, true, [])
abbrev aq_X2_faults : ab_Q := (yX2_faults, cX2_faults, (some .int), false, [])
abbrev aq_X2_pairFaults : ab_Q := (yX2_pairFaults, cX2_pairFaults, (some .int), false, [])
abbrev aq_X2_toldBroken : ab_Q := (yX2_toldBroken, cX2_toldBroken, (some .int), false, [])
abbrev aq_X2_isGood : ab_Q := (yX2_isGood, cX2_isGood, (some .boolean), false, [])
abbrev aq_X2_coverOfTeacher : ab_Q := (yX2_coverOfTeacher, cX2_coverOfTeacher, (some .int), false, [])
abbrev aq_X2_longestDay : ab_Q := (yX2_longestDay, cX2_longestDay, (some .int), false, [])
abbrev aq_X2_lessonsIn : ab_Q := (yX2_lessonsIn, cX2_lessonsIn, (some .int), false, [])
abbrev aq_X2_weightOf : ab_Q := (yX2_weightOf, cX2_weightOf, (some .int), false, [])
abbrev aq_X2_gapsIn : ab_Q := (yX2_gapsIn, cX2_gapsIn, (some .int), false, [])
abbrev aq_X3_init : ab_Q := (yX3_init, cX3_init, none, true, [])
abbrev aq_X3_ask : ab_Q := (yX3_ask, cX3_ask, none, false, [])
abbrev aq_X3_pairIndex : ab_Q := (yX3_pairIndex, cX3_pairIndex, (some .int), false, [])
abbrev aq_X3_valueIndex : ab_Q := (yX3_valueIndex, cX3_valueIndex, (some .int), false, [])
abbrev aq_X3_learnGround : ab_Q := (yX3_learnGround, cX3_learnGround, none, false, [])
abbrev aq_X3_groundPartners : ab_Q := (yX3_groundPartners, cX3_groundPartners, (some .int), false, [])
abbrev aq_X3_openLesson : ab_Q := (yX3_openLesson, cX3_openLesson, none, false, [])
abbrev aq_X3_keep : ab_Q := (yX3_keep, cX3_keep, none, false, [])
abbrev aq_X3_keepPair : ab_Q := (yX3_keepPair, cX3_keepPair, none, false, [])
abbrev aq_X3_keepRooms : ab_Q := (yX3_keepRooms, cX3_keepRooms, none, false, [])
abbrev aq_X3_dropLonelyStarts : ab_Q := (yX3_dropLonelyStarts, cX3_dropLonelyStarts, (some .boolean), false, [])
abbrev aq_X3_isLonelyStart : ab_Q := (yX3_isLonelyStart, cX3_isLonelyStart, (some .boolean), false, [])
abbrev aq_X3_barLesson : ab_Q := (yX3_barLesson, cX3_barLesson, none, false, [])
abbrev aq_X3_barTeacher : ab_Q := (yX3_barTeacher, cX3_barTeacher, none, false, [])
abbrev aq_X3_allow : ab_Q := (yX3_allow, cX3_allow, none, false, [])
abbrev aq_X3_costWeights : ab_Q := (yX3_costWeights, cX3_costWeights, none, false, [])
abbrev aq_X3_costChanges : ab_Q := (yX3_costChanges, cX3_costChanges, none, false, [])
abbrev aq_X3_costShares : ab_Q := (yX3_costShares, cX3_costShares, none, false, [])
abbrev aq_X3_price : ab_Q := (yX3_price, cX3_price, none, false, [])
abbrev aq_X4_init : ab_Q := (yX4_init, cX4_init, none, true, [])
abbrev aq_X4_moveOne : ab_Q := (yX4_moveOne, cX4_moveOne, (some .int), false, [])
abbrev aq_X4_extend : ab_Q := (yX4_extend, cX4_extend, none, false, [])
abbrev aq_X4_isIn : ab_Q := (yX4_isIn, cX4_isIn, (some .boolean), false, [])
abbrev aq_X4_weigh : ab_Q := (yX4_weigh, cX4_weigh, none, false, [])
abbrev aq_X5_init : ab_Q := (yX5_init, cX5_init, none, true, [])
abbrev aq_X5_keepable : ab_Q := (yX5_keepable, cX5_keepable, (some .boolean), false, [])
abbrev aq_X5_stubborn : ab_Q := (yX5_stubborn, cX5_stubborn, (some .int), false, [])
abbrev aq_X5_refresh : ab_Q := (yX5_refresh, cX5_refresh, none, false, [])
abbrev aq_X5_isKept : ab_Q := (yX5_isKept, cX5_isKept, (some .boolean), false, [])
abbrev aq_X6_init : ab_Q := (yX6_init, cX6_init, none, true, [])
abbrev aq_X6_allSlots : ab_Q := (yX6_allSlots, cX6_allSlots, (some .int), false, [])
abbrev aq_X6_allRules : ab_Q := (yX6_allRules, cX6_allRules, (some .int), false, [])
abbrev aq_X6_areLessons : ab_Q := (yX6_areLessons, cX6_areLessons, (some .boolean), false, [])
abbrev aq_X6_dayOf : ab_Q := (yX6_dayOf, cX6_dayOf, (some .int), false, [])
abbrev aq_X6_hourOf : ab_Q := (yX6_hourOf, cX6_hourOf, (some .int), false, [])
abbrev aq_X6_dayMask : ab_Q := (yX6_dayMask, cX6_dayMask, (some .int), false, [])
abbrev aq_X6_lastHours : ab_Q := (yX6_lastHours, cX6_lastHours, (some .int), false, [])
abbrev aq_X6_lastSlot : ab_Q := (yX6_lastSlot, cX6_lastSlot, (some .int), false, [])
abbrev aq_X6_cover : ab_Q := (yX6_cover, cX6_cover, (some .int), false, [])
abbrev aq_X6_staysInDay : ab_Q := (yX6_staysInDay, cX6_staysInDay, (some .boolean), false, [])
abbrev aq_X6_hasSeats : ab_Q := (yX6_hasSeats, cX6_hasSeats, (some .boolean), false, [])
abbrev aq_X6_shareClass : ab_Q := (yX6_shareClass, cX6_shareClass, (some .boolean), false, [])
abbrev aq_X6_shareTeacher : ab_Q := (yX6_shareTeacher, cX6_shareTeacher, (some .boolean), false, [])
abbrev aq_X6_weightOfValue : ab_Q := (yX6_weightOfValue, cX6_weightOfValue, (some .int), false, [])
abbrev aq_X6_hasRuleWithSlot : ab_Q := (yX6_hasRuleWithSlot, cX6_hasRuleWithSlot, (some .boolean), false, [])
abbrev aq_X6_canBeRule : ab_Q := (yX6_canBeRule, cX6_canBeRule, (some .boolean), false, [])
abbrev aq_X6_pairKept : ab_Q := (yX6_pairKept, cX6_pairKept, (some .boolean), false, [])
abbrev aq_X7_init : ab_Q := (yX7_init, cX7_init, none, true, [])
abbrev aq_X7_seek : ab_Q := (yX7_seek, cX7_seek, (some .int), false, [])
abbrev aq_X7_cheapest : ab_Q := (yX7_cheapest, cX7_cheapest, (some .int), false, [])
abbrev aq_X7_behind : ab_Q := (yX7_behind, cX7_behind, (some .boolean), false, [])
abbrev aq_X7_existsBehind : ab_Q := (yX7_existsBehind, cX7_existsBehind, (some .boolean), false, [])
abbrev aq_X7_restrict : ab_Q := (yX7_restrict, cX7_restrict, none, false, [])
abbrev aq_X7_lessen : ab_Q := (yX7_lessen, cX7_lessen, none, false, [])
abbrev aq_X7_explore : ab_Q := (yX7_explore, cX7_explore, (some .boolean), false, [])
abbrev aq_X7_narrow : ab_Q := (yX7_narrow, cX7_narrow, (some .boolean), false, [])
abbrev aq_X7_withinDayLimit : ab_Q := (yX7_withinDayLimit, cX7_withinDayLimit, (some .int), false, [])
abbrev aq_X7_tightest : ab_Q := (yX7_tightest, cX7_tightest, (some .int), false, [])
abbrev aq_X7_seat : ab_Q := (yX7_seat, cX7_seat, (some .boolean), false, [])
abbrev aq_X7_takenRooms : ab_Q := (yX7_takenRooms, cX7_takenRooms, (some .int), false, [])
abbrev aq_X7_record : ab_Q := (yX7_record, cX7_record, (some .boolean), false, [])
abbrev aq_X7_lowest : ab_Q := (yX7_lowest, cX7_lowest, (some .int), false, [])
abbrev aq_X7_cheapestSlot : ab_Q := (yX7_cheapestSlot, cX7_cheapestSlot, (some .int), false, [])
abbrev aq_X7_sureGaps : ab_Q := (yX7_sureGaps, cX7_sureGaps, (some .int), false, [])
abbrev aq_X7_canFill : ab_Q := (yX7_canFill, cX7_canFill, (some .boolean), false, [])
abbrev aq_X7_lowestShares : ab_Q := (yX7_lowestShares, cX7_lowestShares, (some .int), false, [])
abbrev aq_X7_mustEndLast : ab_Q := (yX7_mustEndLast, cX7_mustEndLast, (some .boolean), false, [])
abbrev aq_X8_init : ab_Q := (yX8_init, cX8_init, none, true, [])
abbrev aq_X8_mostSeated : ab_Q := (yX8_mostSeated, cX8_mostSeated, (some .int), false, [])
abbrev aq_X8_fewestUnseated : ab_Q := (yX8_fewestUnseated, cX8_fewestUnseated, (some .int), false, [])
abbrev aq_X8_roomsFor : ab_Q := (yX8_roomsFor, cX8_roomsFor, (some .int), false, [])
abbrev aq_X9_init : ab_Q := (yX9_init, cX9_init, none, true, [])
abbrev aq_X9_begin : ab_Q := (yX9_begin, cX9_begin, none, false, [])
abbrev aq_X9_copyFrom : ab_Q := (yX9_copyFrom, cX9_copyFrom, none, false, [])
abbrev aq_X9_valueOf : ab_Q := (yX9_valueOf, cX9_valueOf, (some .int), false, [])
abbrev aq_X9_differences : ab_Q := (yX9_differences, cX9_differences, (some .int), false, [])
abbrev aq_X9_standsIn : ab_Q := (yX9_standsIn, cX9_standsIn, (some .boolean), false, [])
abbrev aq_X10_init : ab_Q := (yX10_init, cX10_init, none, true, [])
abbrev aq_X10_refresh : ab_Q := (yX10_refresh, cX10_refresh, none, false, [])
abbrev aq_X10_told : ab_Q := (yX10_told, cX10_told, (some .int), false, [])
abbrev aq_X10_isOpen : ab_Q := (yX10_isOpen, cX10_isOpen, (some .boolean), false, [])
abbrev aq_X10_leastWeight : ab_Q := (yX10_leastWeight, cX10_leastWeight, (some .int), false, [])
abbrev aq_X10_leastOf : ab_Q := (yX10_leastOf, cX10_leastOf, (some .int), false, [])
abbrev aq_X10_begin : ab_Q := (yX10_begin, cX10_begin, (some .int), false, [])
abbrev aq_X10_dropLonely : ab_Q := (yX10_dropLonely, cX10_dropLonely, (some .boolean), false, [])
abbrev aq_X10_isLonely : ab_Q := (yX10_isLonely, cX10_isLonely, (some .boolean), false, [])
abbrev aq_X10_hasPartner : ab_Q := (yX10_hasPartner, cX10_hasPartner, (some .boolean), false, [])
abbrev aq_X10_dropCrowded : ab_Q := (yX10_dropCrowded, cX10_dropCrowded, (some .boolean), false, [])
abbrev aq_X10_lessonsOf : ab_Q := (yX10_lessonsOf, cX10_lessonsOf, (some .int), false, [])
abbrev aq_X10_crowdGroup : ab_Q := (yX10_crowdGroup, cX10_crowdGroup, (some .boolean), false, [])
abbrev aq_X10_coverLeft : ab_Q := (yX10_coverLeft, cX10_coverLeft, (some .int), false, [])
abbrev aq_X10_coverOfSet : ab_Q := (yX10_coverOfSet, cX10_coverOfSet, (some .int), false, [])
abbrev aq_X10_lengthOfSet : ab_Q := (yX10_lengthOfSet, cX10_lengthOfSet, (some .int), false, [])
abbrev aq_X10_dropAll : ab_Q := (yX10_dropAll, cX10_dropAll, (some .boolean), false, [])
abbrev aq_X10_dropCovering : ab_Q := (yX10_dropCovering, cX10_dropCovering, (some .boolean), false, [])
abbrev aq_X11_init : ab_Q := (yX11_init, cX11_init, none, true, [])
abbrev aq_X11_setGrid : ab_Q := (yX11_setGrid, cX11_setGrid, (some .int), false, [])
abbrev aq_X11_addClass : ab_Q := (yX11_addClass, cX11_addClass, (some .int), false, [])
abbrev aq_X11_addTeacher : ab_Q := (yX11_addTeacher, cX11_addTeacher, (some .int), false, [])
abbrev aq_X11_addRoom : ab_Q := (yX11_addRoom, cX11_addRoom, (some .int), false, [])
abbrev aq_X11_addLesson : ab_Q := (yX11_addLesson, cX11_addLesson, (some .int), false, [])
abbrev aq_X11_addRule : ab_Q := (yX11_addRule, cX11_addRule, (some .int), false, [])
abbrev aq_X11_left : ab_Q := (yX11_left, cX11_left, (some .int), false, [])
abbrev aq_X11_leftAt : ab_Q := (yX11_leftAt, cX11_leftAt, (some .int), false, [])
abbrev aq_X11_first : ab_Q := (yX11_first, cX11_first, (some .boolean), false, [])
abbrev aq_X11_next : ab_Q := (yX11_next, cX11_next, (some .boolean), false, [])
abbrev aq_X11_place : ab_Q := (yX11_place, cX11_place, (some .int), false, [])
abbrev aq_X11_at : ab_Q := (yX11_at, cX11_at, (some .int), false, [])
abbrev aq_X11_broken : ab_Q := (yX11_broken, cX11_broken, (some .int), false, [])
abbrev aq_X11_groundFaults : ab_Q := (yX11_groundFaults, cX11_groundFaults, (some .int), false, [])
abbrev aq_X11_image : ab_Q := (yX11_image, cX11_image, (some .int), false, [])
abbrev aq_X11_restore : ab_Q := (yX11_restore, cX11_restore, (some .int), false, [])
abbrev aq_X11_core : ab_Q := (yX11_core, cX11_core, (some .int), false, [])
abbrev aq_X11_cores : ab_Q := (yX11_cores, cX11_cores, (some .int), false, [])
abbrev aq_X11_coreAt : ab_Q := (yX11_coreAt, cX11_coreAt, (some .int), false, [])
abbrev aq_X11_isNeeded : ab_Q := (yX11_isNeeded, cX11_isNeeded, (some .boolean), false, [])
abbrev aq_X11_matched : ab_Q := (yX11_matched, cX11_matched, (some .int), false, [])
abbrev aq_X11_unfit : ab_Q := (yX11_unfit, cX11_unfit, (some .int), false, [])
abbrev aq_X11_setWeights : ab_Q := (yX11_setWeights, cX11_setWeights, (some .int), false, [])
abbrev aq_X11_weight : ab_Q := (yX11_weight, cX11_weight, (some .int), false, [])
abbrev aq_X11_best : ab_Q := (yX11_best, cX11_best, (some .int), false, [])
abbrev aq_X11_bound : ab_Q := (yX11_bound, cX11_bound, (some .int), false, [])
abbrev aq_X11_improve : ab_Q := (yX11_improve, cX11_improve, (some .int), false, [])
abbrev aq_X11_away : ab_Q := (yX11_away, cX11_away, (some .int), false, [])
abbrev aq_X11_against : ab_Q := (yX11_against, cX11_against, (some .int), false, [])
abbrev aq_X11_fairest : ab_Q := (yX11_fairest, cX11_fairest, (some .boolean), false, [])
abbrev aq_X11_examDays : ab_Q := (yX11_examDays, cX11_examDays, (some .int), false, [])
abbrev aq_X11_examDay : ab_Q := (yX11_examDay, cX11_examDay, (some .int), false, [])
abbrev aq_X11_errors : ab_Q := (yX11_errors, cX11_errors, (some .int), false, [])
abbrev aq_X11_take : ab_Q := (yX11_take, cX11_take, (some .boolean), false, [])
abbrev aq_X11_needTimetable : ab_Q := (yX11_needTimetable, cX11_needTimetable, none, false, [])
abbrev aq_X11_needLesson : ab_Q := (yX11_needLesson, cX11_needLesson, none, false, [])
abbrev aq_X11_needTeacher : ab_Q := (yX11_needTeacher, cX11_needTeacher, none, false, [])
abbrev aq_X11_needRoom : ab_Q := (yX11_needRoom, cX11_needRoom, none, false, [])
abbrev aq_X11_needSlot : ab_Q := (yX11_needSlot, cX11_needSlot, none, false, [])
abbrev aq_X11_needDay : ab_Q := (yX11_needDay, cX11_needDay, none, false, [])
abbrev aq_X11_needRule : ab_Q := (yX11_needRule, cX11_needRule, none, false, [])
abbrev aq_J6_bitCount_0f7a4 : ab_Q := (yJ6_bitCount_0f7a4, cJ6_bitCount_0f7a4, (some .int), false, [])
abbrev aq_J7_fill_53178 : ab_Q := (yJ7_fill_53178, cJ7_fill_53178, none, false, [])
abbrev aq_J6_numberOfLeadingZeros_0f7a4 : ab_Q := (yJ6_numberOfLeadingZeros_0f7a4, cJ6_numberOfLeadingZeros_0f7a4, (some .int), false, [])
abbrev aq_X12_init : ab_Q := (yX12_init, cX12_init, none, true, [])
abbrev aq_X12_slots : ab_Q := (yX12_slots, cX12_slots, (some .int), false, [])
abbrev aq_X12_covers : ab_Q := (yX12_covers, cX12_covers, (some .int), false, [])
abbrev aq_X12_last : ab_Q := (yX12_last, cX12_last, (some .int), false, [])
abbrev aq_X12_fits : ab_Q := (yX12_fits, cX12_fits, (some .boolean), false, [])
abbrev aq_X12_busy : ab_Q := (yX12_busy, cX12_busy, (some .int), false, [])
abbrev aq_X12_keeps : ab_Q := (yX12_keeps, cX12_keeps, (some .boolean), false, [])
abbrev aq_X12_isGround : ab_Q := (yX12_isGround, cX12_isGround, (some .boolean), false, [])
abbrev aq_X12_lists : ab_Q := (yX12_lists, cX12_lists, (some .boolean), false, [])
abbrev aq_X12_canKeep : ab_Q := (yX12_canKeep, cX12_canKeep, (some .boolean), false, [])
abbrev aq_X12_weight : ab_Q := (yX12_weight, cX12_weight, (some .int), false, [])
abbrev aq_X12_shares : ab_Q := (yX12_shares, cX12_shares, (some .int), false, [])
abbrev aq_L_next : ab_Q := (yL_next, cL_next, (some .int), false, [])
abbrev aq_L_begin : ab_Q := (yL_begin, cL_begin, none, false, [])
abbrev aq_L_isTable : ab_Q := (yL_isTable, cL_isTable, (some .boolean), false, [])
abbrev aq_L_tables : ab_Q := (yL_tables, cL_tables, (some .boolean), false, [])
abbrev aq_L_cores : ab_Q := (yL_cores, cL_cores, (some .boolean), false, [])
abbrev aq_L_moves : ab_Q := (yL_moves, cL_moves, (some .boolean), false, [])
abbrev aq_L_exams : ab_Q := (yL_exams, cL_exams, (some .boolean), false, [])
abbrev aq_X8_fitsSome : ab_Q := (yX8_fitsSome, cX8_fitsSome, (some .boolean), false, [])
abbrev aq_L_law : ab_Q := (yL_law, code, (some .boolean), false, [])
def ab_zs : List (ab_M × ab_Q) := [(am_X0_init, aq_X0_init), (am_X0_enumerate, aq_X0_enumerate), (am_X0_someKeeps, aq_X0_someKeeps), (am_X0_countTimetables, aq_X0_countTimetables), (am_X0_stands, aq_X0_stands), (am_X0_walk, aq_X0_walk), (am_X0_clashesWithNone, aq_X0_clashesWithNone), (am_X0_look, aq_X0_look), (am_X1_init, aq_X1_init), (am_X1_spread, aq_X1_spread), (am_X1_fill, aq_X1_fill), (am_X1_isFree, aq_X1_isFree), (am_X2_init, aq_X2_init), (am_X2_faults, aq_X2_faults), (am_X2_pairFaults, aq_X2_pairFaults), (am_X2_toldBroken, aq_X2_toldBroken), (am_X2_isGood, aq_X2_isGood), (am_X2_coverOfTeacher, aq_X2_coverOfTeacher), (am_X11_needDay, aq_X11_needDay), (am_X2_longestDay, aq_X2_longestDay), (am_X2_lessonsIn, aq_X2_lessonsIn), (am_X11_needDay, aq_X11_needDay), (am_X2_weightOf, aq_X2_weightOf), (am_X2_gapsIn, aq_X2_gapsIn), (am_X11_needDay, aq_X11_needDay), (am_X3_init, aq_X3_init), (am_X3_ask, aq_X3_ask), (am_X3_pairIndex, aq_X3_pairIndex), (am_X3_valueIndex, aq_X3_valueIndex), (am_X3_learnGround, aq_X3_learnGround), (am_X3_groundPartners, aq_X3_groundPartners), (am_X3_openLesson, aq_X3_openLesson), (am_X3_keep, aq_X3_keep), (am_X3_keepPair, aq_X3_keepPair), (am_X3_keepRooms, aq_X3_keepRooms), (am_X3_dropLonelyStarts, aq_X3_dropLonelyStarts), (am_X3_isLonelyStart, aq_X3_isLonelyStart), (am_X3_barLesson, aq_X3_barLesson), (am_X3_barTeacher, aq_X3_barTeacher), (am_X3_allow, aq_X3_allow), (am_X3_costWeights, aq_X3_costWeights), (am_X3_costChanges, aq_X3_costChanges), (am_X3_costShares, aq_X3_costShares), (am_X3_price, aq_X3_price), (am_X4_init, aq_X4_init), (am_X4_moveOne, aq_X4_moveOne), (am_X4_extend, aq_X4_extend), (am_X4_isIn, aq_X4_isIn), (am_X4_weigh, aq_X4_weigh), (am_X5_init, aq_X5_init), (am_X5_keepable, aq_X5_keepable), (am_X5_stubborn, aq_X5_stubborn), (am_X5_refresh, aq_X5_refresh), (am_X5_isKept, aq_X5_isKept), (am_X6_init, aq_X6_init), (am_X6_allSlots, aq_X6_allSlots), (am_X6_allRules, aq_X6_allRules), (am_X6_areLessons, aq_X6_areLessons), (am_X6_dayOf, aq_X6_dayOf), (am_X6_hourOf, aq_X6_hourOf), (am_X6_dayMask, aq_X6_dayMask), (am_X6_lastHours, aq_X6_lastHours), (am_X6_lastSlot, aq_X6_lastSlot), (am_X6_cover, aq_X6_cover), (am_X6_staysInDay, aq_X6_staysInDay), (am_X6_hasSeats, aq_X6_hasSeats), (am_X6_shareClass, aq_X6_shareClass), (am_X6_shareTeacher, aq_X6_shareTeacher), (am_X6_weightOfValue, aq_X6_weightOfValue), (am_X6_hasRuleWithSlot, aq_X6_hasRuleWithSlot), (am_X6_canBeRule, aq_X6_canBeRule), (am_X11_needDay, aq_X11_needDay), (am_X6_pairKept, aq_X6_pairKept), (am_X7_init, aq_X7_init), (am_X7_seek, aq_X7_seek), (am_X7_cheapest, aq_X7_cheapest), (am_X7_behind, aq_X7_behind), (am_X7_existsBehind, aq_X7_existsBehind), (am_X7_restrict, aq_X7_restrict), (am_X7_lessen, aq_X7_lessen), (am_X7_explore, aq_X7_explore), (am_X7_narrow, aq_X7_narrow), (am_X7_withinDayLimit, aq_X7_withinDayLimit), (am_X7_tightest, aq_X7_tightest), (am_X7_seat, aq_X7_seat), (am_X7_takenRooms, aq_X7_takenRooms), (am_X7_record, aq_X7_record), (am_X7_lowest, aq_X7_lowest), (am_X7_cheapestSlot, aq_X7_cheapestSlot), (am_X7_sureGaps, aq_X7_sureGaps), (am_X7_canFill, aq_X7_canFill), (am_X7_lowestShares, aq_X7_lowestShares), (am_X7_mustEndLast, aq_X7_mustEndLast), (am_X8_init, aq_X8_init), (am_X8_mostSeated, aq_X8_mostSeated), (am_X8_fewestUnseated, aq_X8_fewestUnseated), (am_X8_roomsFor, aq_X8_roomsFor), (am_X9_init, aq_X9_init), (am_X9_begin, aq_X9_begin), (am_X9_copyFrom, aq_X9_copyFrom), (am_X9_valueOf, aq_X9_valueOf), (am_X9_differences, aq_X9_differences), (am_X9_standsIn, aq_X9_standsIn), (am_X10_init, aq_X10_init), (am_X10_refresh, aq_X10_refresh), (am_X10_told, aq_X10_told), (am_X10_isOpen, aq_X10_isOpen), (am_X10_leastWeight, aq_X10_leastWeight), (am_X10_leastOf, aq_X10_leastOf), (am_X10_begin, aq_X10_begin), (am_X10_dropLonely, aq_X10_dropLonely), (am_X10_isLonely, aq_X10_isLonely), (am_X10_hasPartner, aq_X10_hasPartner), (am_X10_dropCrowded, aq_X10_dropCrowded), (am_X10_lessonsOf, aq_X10_lessonsOf), (am_X10_crowdGroup, aq_X10_crowdGroup), (am_X10_coverLeft, aq_X10_coverLeft), (am_X10_coverOfSet, aq_X10_coverOfSet), (am_X10_lengthOfSet, aq_X10_lengthOfSet), (am_X10_dropAll, aq_X10_dropAll), (am_X10_dropCovering, aq_X10_dropCovering), (am_X11_init, aq_X11_init), (am_X11_setGrid, aq_X11_setGrid), (am_X11_addClass, aq_X11_addClass), (am_X11_addTeacher, aq_X11_addTeacher), (am_X11_addRoom, aq_X11_addRoom), (am_X11_addLesson, aq_X11_addLesson), (am_X11_addRule, aq_X11_addRule), (am_X11_needDay, aq_X11_needDay), (am_X11_left, aq_X11_left), (am_X11_leftAt, aq_X11_leftAt), (am_X11_first, aq_X11_first), (am_X11_next, aq_X11_next), (am_X11_place, aq_X11_place), (am_X11_at, aq_X11_at), (am_X11_broken, aq_X11_broken), (am_X11_groundFaults, aq_X11_groundFaults), (am_X11_image, aq_X11_image), (am_X11_restore, aq_X11_restore), (am_X11_needDay, aq_X11_needDay), (am_X11_needDay, aq_X11_needDay), (am_X11_core, aq_X11_core), (am_X11_cores, aq_X11_cores), (am_X11_coreAt, aq_X11_coreAt), (am_X11_isNeeded, aq_X11_isNeeded), (am_X11_matched, aq_X11_matched), (am_X11_unfit, aq_X11_unfit), (am_X11_setWeights, aq_X11_setWeights), (am_X11_weight, aq_X11_weight), (am_X11_best, aq_X11_best), (am_X11_bound, aq_X11_bound), (am_X11_improve, aq_X11_improve), (am_X11_away, aq_X11_away), (am_X11_against, aq_X11_against), (am_X11_fairest, aq_X11_fairest), (am_X11_needDay, aq_X11_needDay), (am_X11_examDays, aq_X11_examDays), (am_X11_examDay, aq_X11_examDay), (am_X11_needDay, aq_X11_needDay), (am_X11_needDay, aq_X11_needDay), (am_X11_needDay, aq_X11_needDay), (am_X11_needDay, aq_X11_needDay), (am_X11_errors, aq_X11_errors), (am_X11_take, aq_X11_take), (am_X11_needDay, aq_X11_needDay), (am_X11_needTimetable, aq_X11_needTimetable), (am_X11_needLesson, aq_X11_needLesson), (am_X11_needTeacher, aq_X11_needTeacher), (am_X11_needRoom, aq_X11_needRoom), (am_X11_needSlot, aq_X11_needSlot), (am_X11_needDay, aq_X11_needDay), (am_X11_needRule, aq_X11_needRule), (am_X11_needDay, aq_X11_needDay), (am_X11_needDay, aq_X11_needDay), (am_X11_needDay, aq_X11_needDay), (am_X11_needDay, aq_X11_needDay), (am_X11_needDay, aq_X11_needDay), (am_X11_needDay, aq_X11_needDay), (am_X11_needDay, aq_X11_needDay), (am_X11_needDay, aq_X11_needDay), (am_X11_needDay, aq_X11_needDay), (am_X11_needDay, aq_X11_needDay), (am_X11_needDay, aq_X11_needDay), (am_X11_needDay, aq_X11_needDay), (am_X11_needDay, aq_X11_needDay), (am_X11_needDay, aq_X11_needDay), (am_X11_needDay, aq_X11_needDay), (am_X11_needDay, aq_X11_needDay), (am_X11_needDay, aq_X11_needDay), (am_X11_needDay, aq_X11_needDay), (am_X11_needDay, aq_X11_needDay), (am_X11_needDay, aq_X11_needDay), (am_X11_needDay, aq_X11_needDay), (am_X11_needDay, aq_X11_needDay), (am_X11_needDay, aq_X11_needDay), (am_X11_needDay, aq_X11_needDay), (am_X11_needDay, aq_X11_needDay), (am_X11_needDay, aq_X11_needDay), (am_X11_needDay, aq_X11_needDay), (am_X11_needDay, aq_X11_needDay), (am_X11_needDay, aq_X11_needDay), (am_X11_needDay, aq_X11_needDay), (am_X11_needDay, aq_X11_needDay), (am_X11_needDay, aq_X11_needDay), (am_X11_needDay, aq_X11_needDay), (am_X11_needDay, aq_X11_needDay), (am_X11_needDay, aq_X11_needDay), (am_X11_needDay, aq_X11_needDay), (am_X11_needDay, aq_X11_needDay), (am_X11_needDay, aq_X11_needDay), (am_X11_needDay, aq_X11_needDay), (am_X11_needDay, aq_X11_needDay), (am_X11_needDay, aq_X11_needDay), (am_X11_needDay, aq_X11_needDay), (am_X11_needDay, aq_X11_needDay), (am_X11_needDay, aq_X11_needDay), (am_X11_needDay, aq_X11_needDay), (am_X11_needDay, aq_X11_needDay), (am_X11_needDay, aq_X11_needDay), (am_X11_needDay, aq_X11_needDay), (am_X11_needDay, aq_X11_needDay), (am_X11_needDay, aq_X11_needDay), (am_X11_needDay, aq_X11_needDay), (am_X11_needDay, aq_X11_needDay), (am_X11_needDay, aq_X11_needDay), (am_X11_needDay, aq_X11_needDay), (am_X11_needDay, aq_X11_needDay), (am_X11_needDay, aq_X11_needDay), (am_X11_needDay, aq_X11_needDay), (am_X11_needDay, aq_X11_needDay), (am_X11_needDay, aq_X11_needDay), (am_X11_needDay, aq_X11_needDay), (am_X11_needDay, aq_X11_needDay), (am_X11_needDay, aq_X11_needDay), (am_X11_needDay, aq_X11_needDay), (am_X11_needDay, aq_X11_needDay), (am_X11_needDay, aq_X11_needDay), (am_X11_needDay, aq_X11_needDay), (am_X11_needDay, aq_X11_needDay), (am_X11_needDay, aq_X11_needDay), (am_X11_needDay, aq_X11_needDay), (am_X11_needDay, aq_X11_needDay), (am_X11_needDay, aq_X11_needDay), (am_X11_needDay, aq_X11_needDay), (am_X11_needDay, aq_X11_needDay), (am_X11_needDay, aq_X11_needDay), (am_X11_needDay, aq_X11_needDay), (am_X11_needDay, aq_X11_needDay), (am_X11_needDay, aq_X11_needDay), (am_X11_needDay, aq_X11_needDay), (am_X11_needDay, aq_X11_needDay), (am_X11_needDay, aq_X11_needDay), (am_X11_needDay, aq_X11_needDay), (am_X11_needDay, aq_X11_needDay), (am_X11_needDay, aq_X11_needDay), (am_X11_needDay, aq_X11_needDay), (am_X11_needDay, aq_X11_needDay), (am_X11_needDay, aq_X11_needDay), (am_X11_needDay, aq_X11_needDay), (am_X11_needDay, aq_X11_needDay), (am_X11_needDay, aq_X11_needDay), (am_X11_needDay, aq_X11_needDay), (am_X11_needDay, aq_X11_needDay), (am_X11_needDay, aq_X11_needDay), (am_X11_needDay, aq_X11_needDay), (am_X11_needDay, aq_X11_needDay), (am_X11_needDay, aq_X11_needDay), (am_X11_needDay, aq_X11_needDay), (am_X11_needDay, aq_X11_needDay), (am_X11_needDay, aq_X11_needDay), (am_X11_needDay, aq_X11_needDay), (am_X11_needDay, aq_X11_needDay), (am_X11_needDay, aq_X11_needDay), (am_X11_needDay, aq_X11_needDay), (am_X11_needDay, aq_X11_needDay), (am_X11_needDay, aq_X11_needDay), (am_X11_needDay, aq_X11_needDay), (am_J6_bitCount_0f7a4, aq_J6_bitCount_0f7a4), (am_J7_fill_53178, aq_J7_fill_53178), (am_J6_numberOfLeadingZeros_0f7a4, aq_J6_numberOfLeadingZeros_0f7a4), (am_X12_init, aq_X12_init), (am_X12_slots, aq_X12_slots), (am_X12_covers, aq_X12_covers), (am_X12_last, aq_X12_last), (am_X12_fits, aq_X12_fits), (am_X12_busy, aq_X12_busy), (am_X12_keeps, aq_X12_keeps), (am_X12_isGround, aq_X12_isGround), (am_X12_lists, aq_X12_lists), (am_X12_canKeep, aq_X12_canKeep), (am_X12_weight, aq_X12_weight), (am_X12_shares, aq_X12_shares), (am_L_next, aq_L_next), (am_L_begin, aq_L_begin), (am_L_isTable, aq_L_isTable), (am_L_tables, aq_L_tables), (am_L_cores, aq_L_cores), (am_L_moves, aq_L_moves), (am_L_exams, aq_L_exams), (am_X8_fitsSome, aq_X8_fitsSome)]
def ab_mt (i : Nat) : Option ab_M := match ab_zs[i]? with
  | some z => some z.1
  | none => if i = 300 then some am_L_law else none
def ab_qt (i : Nat) : Option ab_Q := match ab_zs[i]? with
  | some z => some z.2
  | none => none
