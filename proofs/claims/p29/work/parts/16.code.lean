def kX10_become_0 : List JI := [(.aload_n 1, 1, 1, 0, 0, 0, 0),
  (.getfield 9, 3, 10, 0, 4, 0, 21),
  (.iconst 0, 1, 0, 0, 0, 0, 0),
  (.aload_n 0, 1, 0, 0, 0, 0, 0),
  (.getfield 9, 3, 10, 0, 4, 0, 21),
  (.iconst 0, 1, 0, 0, 0, 0, 0),
  (.bipush 6, 2, 0, 6, 0, 0, 0),
  (.invokestatic 68, 3, 999, 0, 0, 0, 242),
  (.aload_n 1, 1, 1, 0, 0, 0, 0),
  (.getfield 15, 3, 10, 1, 4, 0, 22),
  (.iconst 0, 1, 0, 0, 0, 0, 0),
  (.aload_n 0, 1, 0, 0, 0, 0, 0),
  (.getfield 15, 3, 10, 1, 4, 0, 22),
  (.iconst 0, 1, 0, 0, 0, 0, 0),
  (.bipush 6, 2, 0, 6, 0, 0, 0),
  (.invokestatic 68, 3, 999, 0, 0, 0, 242),
  (.aload_n 2, 1, 2, 0, 0, 0, 0),
  (.iconst 0, 1, 0, 0, 0, 0, 0),
  (.aload_n 0, 1, 0, 0, 0, 0, 0),
  (.getfield 27, 3, 10, 5, 4, 0, 26),
  (.iconst 0, 1, 0, 0, 0, 0, 0),
  (.iload_n 3, 1, 3, 0, 0, 0, 0),
  (.invokestatic 68, 3, 999, 0, 0, 0, 242),
  (.aload_n 0, 1, 0, 0, 0, 0, 0),
  (.iload_n 3, 1, 3, 0, 0, 0, 0),
  (.putfield 58, 3, 10, 6, 1, 0, 220),
  (.iconst 0, 1, 0, 0, 0, 0, 0),
  (.istore 4, 2, 4, 0, 0, 0, 0)]
def kX10_become_49 : List JI := [(.iload 4, 2, 4, 0, 0, 0, 0),
  (.iload_n 3, 1, 3, 0, 0, 0, 0),
  (.if_icmp .ge 36, 3, 88, 0, 0, 0, 0),
  (.aload_n 0, 1, 0, 0, 0, 0, 0),
  (.getfield 23, 3, 10, 3, 4, 0, 25),
  (.aload_n 0, 1, 0, 0, 0, 0, 0),
  (.getfield 27, 3, 10, 5, 4, 0, 26),
  (.iload 4, 2, 4, 0, 0, 0, 0),
  (.iaload, 1, 0, 0, 0, 0, 0),
  (.aaload, 1, 0, 0, 0, 0, 0),
  (.aload_n 1, 1, 1, 0, 0, 0, 0),
  (.getfield 23, 3, 10, 3, 4, 0, 25),
  (.aload_n 0, 1, 0, 0, 0, 0, 0),
  (.getfield 27, 3, 10, 5, 4, 0, 26),
  (.iload 4, 2, 4, 0, 0, 0, 0),
  (.iaload, 1, 0, 0, 0, 0, 0),
  (.aaload, 1, 0, 0, 0, 0, 0),
  (.invokevirtual 74, 3, 141, 1, 0, 4, 352),
  (.iinc 4 1, 3, 4, 1, 0, 0, 0),
  (.goto (-36), 3, 49, 0, 0, 0, 0)]
def kX10_become_88 : List JI := [(.return_, 1, 0, 0, 0, 0, 0)]
theorem qq_X10_become : (jchk 142 0 kX10_become_0 && (jchk 142 49 kX10_become_49 && jchk 142 88 kX10_become_88)) = true := by decide +kernel
theorem qX10_become_0 : jchk 142 0 kX10_become_0 = true := jb1 (qq_X10_become)
theorem qX10_become_49 : jchk 142 49 kX10_become_49 = true := jb1 (jb2 (qq_X10_become))
theorem qX10_become_88 : jchk 142 88 kX10_become_88 = true := jb2 (jb2 (qq_X10_become))
def kX7_workIsAhead_0 : List JI := [(.iconst 0, 1, 0, 0, 0, 0, 0),
  (.istore_n 2, 1, 2, 0, 0, 0, 0)]
def kX7_workIsAhead_2 : List JI := [(.iload_n 2, 1, 2, 0, 0, 0, 0),
  (.aload_n 0, 1, 0, 0, 0, 0, 0),
  (.getfield 30, 3, 7, 6, 4, 0, 66),
  (.getfield 81, 3, 10, 6, 1, 0, 353),
  (.if_icmp .ge 64, 3, 74, 0, 0, 0, 0),
  (.aload_n 0, 1, 0, 0, 0, 0, 0),
  (.getfield 30, 3, 7, 6, 4, 0, 66),
  (.getfield 88, 3, 10, 3, 4, 0, 354),
  (.aload_n 0, 1, 0, 0, 0, 0, 0),
  (.getfield 30, 3, 7, 6, 4, 0, 66),
  (.getfield 78, 3, 10, 5, 4, 0, 355),
  (.iload_n 2, 1, 2, 0, 0, 0, 0),
  (.iaload, 1, 0, 0, 0, 0, 0),
  (.aaload, 1, 0, 0, 0, 0, 0),
  (.astore_n 3, 1, 3, 0, 0, 0, 0),
  (.aload_n 3, 1, 3, 0, 0, 0, 0),
  (.getfield 157, 3, 4, 3, 1, 0, 356),
  (.iconst 1, 1, 0, 1, 0, 0, 0),
  (.if_icmp .ne 32, 3, 68, 0, 0, 0, 0),
  (.aload_n 3, 1, 3, 0, 0, 0, 0),
  (.getfield 160, 3, 4, 7, 3, 0, 357),
  (.ifCond .eq 25, 3, 68, 0, 0, 0, 0),
  (.aload_n 3, 1, 3, 0, 0, 0, 0),
  (.getfield 163, 3, 4, 6, 1, 0, 358),
  (.ifCond .le 18, 3, 68, 0, 0, 0, 0),
  (.aload_n 0, 1, 0, 0, 0, 0, 0),
  (.getfield 24, 3, 7, 5, 4, 0, 63),
  (.aload_n 3, 1, 3, 0, 0, 0, 0),
  (.getfield 166, 3, 4, 5, 1, 0, 359),
  (.iaload, 1, 0, 0, 0, 0, 0),
  (.iload_n 1, 1, 1, 0, 0, 0, 0),
  (.if_icmp .le 5, 3, 68, 0, 0, 0, 0),
  (.iconst 1, 1, 0, 1, 0, 0, 0),
  (.ireturn, 1, 0, 0, 1, 0, 0)]
def kX7_workIsAhead_68 : List JI := [(.iinc 2 1, 3, 2, 1, 0, 0, 0),
  (.goto (-69), 3, 2, 0, 0, 0, 0)]
def kX7_workIsAhead_74 : List JI := [(.iconst 0, 1, 0, 0, 0, 0, 0),
  (.ireturn, 1, 0, 0, 1, 0, 0)]
theorem qq_X7_workIsAhead : ((jchk 143 0 kX7_workIsAhead_0 && jchk 143 2 kX7_workIsAhead_2) && (jchk 143 68 kX7_workIsAhead_68 && jchk 143 74 kX7_workIsAhead_74)) = true := by decide +kernel
theorem qX7_workIsAhead_0 : jchk 143 0 kX7_workIsAhead_0 = true := jb1 (jb1 (qq_X7_workIsAhead))
theorem qX7_workIsAhead_2 : jchk 143 2 kX7_workIsAhead_2 = true := jb2 (jb1 (qq_X7_workIsAhead))
theorem qX7_workIsAhead_68 : jchk 143 68 kX7_workIsAhead_68 = true := jb1 (jb2 (qq_X7_workIsAhead))
theorem qX7_workIsAhead_74 : jchk 143 74 kX7_workIsAhead_74 = true := jb2 (jb2 (qq_X7_workIsAhead))
def kX7_tryOut_0 : List JI := [(.aload_n 0, 1, 0, 0, 0, 0, 0),
  (.getfield 30, 3, 7, 6, 4, 0, 66),
  (.aload_n 1, 1, 1, 0, 0, 0, 0),
  (.aload_n 2, 1, 2, 0, 0, 0, 0),
  (.iload_n 3, 1, 3, 0, 0, 0, 0),
  (.invokevirtual 142, 3, 142, 3, 0, 10, 360),
  (.iconst 0, 1, 0, 0, 0, 0, 0),
  (.istore 5, 2, 5, 0, 0, 0, 0),
  (.iconst 1, 1, 0, 1, 0, 0, 0),
  (.istore 6, 2, 6, 0, 0, 0, 0),
  (.iconst 0, 1, 0, 0, 0, 0, 0),
  (.istore 7, 2, 7, 0, 0, 0, 0)]
def kX7_tryOut_19 : List JI := [(.iload 7, 2, 7, 0, 0, 0, 0),
  (.sipush 300, 3, 0, 300, 0, 0, 0),
  (.if_icmp .ge 75, 3, 99, 0, 0, 0, 0),
  (.iload 5, 2, 5, 0, 0, 0, 0),
  (.iload_n 3, 1, 3, 0, 0, 0, 0),
  (.if_icmp .ge 69, 3, 99, 0, 0, 0, 0),
  (.iload 6, 2, 6, 0, 0, 0, 0),
  (.ifCond .eq 64, 3, 99, 0, 0, 0, 0),
  (.iload 5, 2, 5, 0, 0, 0, 0),
  (.aload_n 0, 1, 0, 0, 0, 0, 0),
  (.getfield 30, 3, 7, 6, 4, 0, 66),
  (.aload_n 0, 1, 0, 0, 0, 0, 0),
  (.getfield 50, 3, 7, 3, 1, 0, 342),
  (.iconst 1, 1, 0, 1, 0, 0, 0),
  (.iadd, 1, 0, 0, 0, 0, 0),
  (.iload 7, 2, 7, 0, 0, 0, 0),
  (.iadd, 1, 0, 0, 0, 0, 0),
  (.aload_n 0, 1, 0, 0, 0, 0, 0),
  (.getfield 20, 3, 7, 4, 4, 0, 62),
  (.iload 7, 2, 7, 0, 0, 0, 0),
  (.aload 4, 2, 4, 0, 0, 0, 0),
  (.invokevirtual 146, 3, 83, 4, 0, 10, 361),
  (.iadd, 1, 0, 0, 0, 0, 0),
  (.istore 5, 2, 5, 0, 0, 0, 0),
  (.aload_n 0, 1, 0, 0, 0, 0, 0),
  (.getfield 30, 3, 7, 6, 4, 0, 66),
  (.getfield 150, 3, 10, 10, 3, 0, 362),
  (.ifCond .ne 12, 3, 86, 0, 0, 0, 0),
  (.aload_n 0, 1, 0, 0, 0, 0, 0),
  (.iload 7, 2, 7, 0, 0, 0, 0),
  (.invokevirtual 153, 3, 143, 1, 0, 7, 363),
  (.ifCond .eq 7, 3, 90, 0, 0, 0, 0)]
def kX7_tryOut_86 : List JI := [(.iconst 1, 1, 0, 1, 0, 0, 0),
  (.goto 4, 3, 91, 0, 0, 0, 0)]
def kX7_tryOut_90 : List JI := [(.iconst 0, 1, 0, 0, 0, 0, 0)]
def kX7_tryOut_91 : List JI := [(.istore 6, 2, 6, 0, 0, 0, 0),
  (.iinc 7 1, 3, 7, 1, 0, 0, 0),
  (.goto (-77), 3, 19, 0, 0, 0, 0)]
def kX7_tryOut_99 : List JI := [(.return_, 1, 0, 0, 0, 0, 0)]
theorem qq_X7_tryOut : ((jchk 144 0 kX7_tryOut_0 && (jchk 144 19 kX7_tryOut_19 && jchk 144 86 kX7_tryOut_86)) && (jchk 144 90 kX7_tryOut_90 && (jchk 144 91 kX7_tryOut_91 && jchk 144 99 kX7_tryOut_99))) = true := by decide +kernel
theorem qX7_tryOut_0 : jchk 144 0 kX7_tryOut_0 = true := jb1 (jb1 (qq_X7_tryOut))
theorem qX7_tryOut_19 : jchk 144 19 kX7_tryOut_19 = true := jb1 (jb2 (jb1 (qq_X7_tryOut)))
theorem qX7_tryOut_86 : jchk 144 86 kX7_tryOut_86 = true := jb2 (jb2 (jb1 (qq_X7_tryOut)))
theorem qX7_tryOut_90 : jchk 144 90 kX7_tryOut_90 = true := jb1 (jb2 (qq_X7_tryOut))
theorem qX7_tryOut_91 : jchk 144 91 kX7_tryOut_91 = true := jb1 (jb2 (jb2 (qq_X7_tryOut)))
theorem qX7_tryOut_99 : jchk 144 99 kX7_tryOut_99 = true := jb2 (jb2 (jb2 (qq_X7_tryOut)))
def kX7_readyDay_0 : List JI := [(.aload_n 0, 1, 0, 0, 0, 0, 0),
  (.getfield 44, 3, 7, 10, 3, 0, 155),
  (.ifCond .ne 74, 3, 78, 0, 0, 0, 0),
  (.aload_n 2, 1, 2, 0, 0, 0, 0),
  (.invokevirtual 75, 3, 71, 0, 0, 10, 364),
  (.aload_n 0, 1, 0, 0, 0, 0, 0),
  (.aload_n 2, 1, 2, 0, 0, 0, 0),
  (.aload_n 2, 1, 2, 0, 0, 0, 0),
  (.getfield 78, 3, 10, 5, 4, 0, 355),
  (.aload_n 2, 1, 2, 0, 0, 0, 0),
  (.getfield 81, 3, 10, 6, 1, 0, 353),
  (.aload_n 3, 1, 3, 0, 0, 0, 0),
  (.invokevirtual 84, 3, 144, 4, 0, 7, 365),
  (.iconst 0, 1, 0, 0, 0, 0, 0),
  (.istore 4, 2, 4, 0, 0, 0, 0)]
def kX7_readyDay_28 : List JI := [(.iload 4, 2, 4, 0, 0, 0, 0),
  (.aload_n 2, 1, 2, 0, 0, 0, 0),
  (.getfield 81, 3, 10, 6, 1, 0, 353),
  (.if_icmp .ge 39, 3, 73, 0, 0, 0, 0),
  (.aload_n 0, 1, 0, 0, 0, 0, 0),
  (.getfield 34, 3, 7, 7, 4, 0, 67),
  (.aload_n 2, 1, 2, 0, 0, 0, 0),
  (.getfield 78, 3, 10, 5, 4, 0, 355),
  (.iload 4, 2, 4, 0, 0, 0, 0),
  (.iaload, 1, 0, 0, 0, 0, 0),
  (.aload_n 0, 1, 0, 0, 0, 0, 0),
  (.getfield 30, 3, 7, 6, 4, 0, 66),
  (.getfield 88, 3, 10, 3, 4, 0, 354),
  (.aload_n 2, 1, 2, 0, 0, 0, 0),
  (.getfield 78, 3, 10, 5, 4, 0, 355),
  (.iload 4, 2, 4, 0, 0, 0, 0),
  (.iaload, 1, 0, 0, 0, 0, 0),
  (.aaload, 1, 0, 0, 0, 0, 0),
  (.getfield 92, 3, 4, 9, 1, 0, 366),
  (.iastore, 1, 0, 0, 0, 0, 0),
  (.iinc 4 1, 3, 4, 1, 0, 0, 0),
  (.goto (-42), 3, 28, 0, 0, 0, 0)]
def kX7_readyDay_73 : List JI := [(.aload_n 0, 1, 0, 0, 0, 0, 0),
  (.iconst 1, 1, 0, 1, 0, 0, 0),
  (.putfield 44, 3, 7, 10, 3, 0, 155)]
def kX7_readyDay_78 : List JI := [(.aload_n 0, 1, 0, 0, 0, 0, 0),
  (.getfield 34, 3, 7, 7, 4, 0, 67),
  (.iload_n 1, 1, 1, 0, 0, 0, 0),
  (.iaload, 1, 0, 0, 0, 0, 0),
  (.ireturn, 1, 0, 0, 0, 0, 0)]
theorem qq_X7_readyDay : ((jchk 145 0 kX7_readyDay_0 && jchk 145 28 kX7_readyDay_28) && (jchk 145 73 kX7_readyDay_73 && jchk 145 78 kX7_readyDay_78)) = true := by decide +kernel
theorem qX7_readyDay_0 : jchk 145 0 kX7_readyDay_0 = true := jb1 (jb1 (qq_X7_readyDay))
theorem qX7_readyDay_28 : jchk 145 28 kX7_readyDay_28 = true := jb2 (jb1 (qq_X7_readyDay))
theorem qX7_readyDay_73 : jchk 145 73 kX7_readyDay_73 = true := jb1 (jb2 (qq_X7_readyDay))
theorem qX7_readyDay_78 : jchk 145 78 kX7_readyDay_78 = true := jb2 (jb2 (qq_X7_readyDay))
def kX11_readyAhead_0 : List JI := [(.aload_n 0, 1, 0, 0, 0, 0, 0),
  (.getfield 81, 3, 11, 11, 4, 0, 100),
  (.aload_n 0, 1, 0, 0, 0, 0, 0),
  (.getfield 147, 3, 11, 0, 1, 0, 182),
  (.aload_n 0, 1, 0, 0, 0, 0, 0),
  (.getfield 16, 3, 11, 2, 4, 0, 73),
  (.aload_n 0, 1, 0, 0, 0, 0, 0),
  (.getfield 23, 3, 11, 3, 4, 0, 76),
  (.invokevirtual 357, 3, 140, 3, 0, 7, 367),
  (.aload_n 0, 1, 0, 0, 0, 0, 0),
  (.getfield 81, 3, 11, 11, 4, 0, 100),
  (.iload_n 1, 1, 1, 0, 0, 0, 0),
  (.aload_n 0, 1, 0, 0, 0, 0, 0),
  (.getfield 37, 3, 11, 5, 4, 0, 82),
  (.aload_n 0, 1, 0, 0, 0, 0, 0),
  (.getfield 30, 3, 11, 4, 4, 0, 79),
  (.invokevirtual 361, 3, 145, 3, 0, 7, 368),
  (.ireturn, 1, 0, 0, 0, 0, 0)]
theorem qX11_readyAhead_0 : jchk 146 0 kX11_readyAhead_0 = true := by decide +kernel
def kX11_ready_0 : List JI := [(.aload_n 0, 1, 0, 0, 0, 0, 0),
  (.iload_n 1, 1, 1, 0, 0, 0, 0),
  (.invokevirtual 188, 3, 60, 1, 0, 11, 210),
  (.ifCond .ne 7, 3, 12, 0, 0, 0, 0),
  (.iconst (-1), 1, 0, -1, 0, 0, 0),
  (.goto 25, 3, 34, 0, 0, 0, 0)]
def kX11_ready_12 : List JI := [(.aload_n 0, 1, 0, 0, 0, 0, 0),
  (.getfield 37, 3, 11, 5, 4, 0, 82),
  (.getfield 191, 3, 10, 3, 4, 0, 211),
  (.iload_n 1, 1, 1, 0, 0, 0, 0),
  (.aaload, 1, 0, 0, 0, 0, 0),
  (.getfield 227, 3, 4, 3, 1, 0, 275),
  (.iconst 3, 1, 0, 3, 0, 0, 0),
  (.if_icmp .ne 8, 3, 33, 0, 0, 0, 0),
  (.bipush (-3), 2, 0, -3, 0, 0, 0),
  (.goto 4, 3, 34, 0, 0, 0, 0)]
def kX11_ready_33 : List JI := [(.iconst 0, 1, 0, 0, 0, 0, 0)]
def kX11_ready_34 : List JI := [(.istore_n 2, 1, 2, 0, 0, 0, 0),
  (.iload_n 2, 1, 2, 0, 0, 0, 0),
  (.ifCond .eq 9, 3, 45, 0, 0, 0, 0),
  (.aload_n 0, 1, 0, 0, 0, 0, 0),
  (.iload_n 2, 1, 2, 0, 0, 0, 0),
  (.invokevirtual 93, 3, 16, 1, 0, 11, 159),
  (.ireturn, 1, 0, 0, 0, 0, 0)]
def kX11_ready_45 : List JI := [(.aload_n 0, 1, 0, 0, 0, 0, 0),
  (.getfield 37, 3, 11, 5, 4, 0, 82),
  (.getfield 191, 3, 10, 3, 4, 0, 211),
  (.iload_n 1, 1, 1, 0, 0, 0, 0),
  (.aaload, 1, 0, 0, 0, 0, 0),
  (.getfield 227, 3, 4, 3, 1, 0, 275),
  (.iconst 2, 1, 0, 2, 0, 0, 0),
  (.if_icmp .ne 16, 3, 74, 0, 0, 0, 0),
  (.aload_n 0, 1, 0, 0, 0, 0, 0),
  (.getfield 37, 3, 11, 5, 4, 0, 82),
  (.getfield 191, 3, 10, 3, 4, 0, 211),
  (.iload_n 1, 1, 1, 0, 0, 0, 0),
  (.aaload, 1, 0, 0, 0, 0, 0),
  (.getfield 305, 3, 4, 9, 1, 0, 369),
  (.ireturn, 1, 0, 0, 0, 0, 0)]
def kX11_ready_74 : List JI := [(.aload_n 0, 1, 0, 0, 0, 0, 0),
  (.iload_n 1, 1, 1, 0, 0, 0, 0),
  (.invokevirtual 308, 3, 146, 1, 0, 11, 370),
  (.ireturn, 1, 0, 0, 0, 0, 0)]
theorem qq_X11_ready : ((jchk 147 0 kX11_ready_0 && (jchk 147 12 kX11_ready_12 && jchk 147 33 kX11_ready_33)) && (jchk 147 34 kX11_ready_34 && (jchk 147 45 kX11_ready_45 && jchk 147 74 kX11_ready_74))) = true := by decide +kernel
theorem qX11_ready_0 : jchk 147 0 kX11_ready_0 = true := jb1 (jb1 (qq_X11_ready))
theorem qX11_ready_12 : jchk 147 12 kX11_ready_12 = true := jb1 (jb2 (jb1 (qq_X11_ready)))
theorem qX11_ready_33 : jchk 147 33 kX11_ready_33 = true := jb2 (jb2 (jb1 (qq_X11_ready)))
theorem qX11_ready_34 : jchk 147 34 kX11_ready_34 = true := jb1 (jb2 (qq_X11_ready))
theorem qX11_ready_45 : jchk 147 45 kX11_ready_45 = true := jb1 (jb2 (jb2 (qq_X11_ready)))
theorem qX11_ready_74 : jchk 147 74 kX11_ready_74 = true := jb2 (jb2 (jb2 (qq_X11_ready)))
def kX12_swap_0 : List JI := [(.iload_n 3, 1, 3, 0, 0, 0, 0),
  (.ifCond .ne 10, 3, 11, 0, 0, 0, 0),
  (.aload_n 0, 1, 0, 0, 0, 0, 0),
  (.getfield 152, 3, 12, 59, 4, 0, 149),
  (.iload_n 1, 1, 1, 0, 0, 0, 0),
  (.iload_n 2, 1, 2, 0, 0, 0, 0),
  (.iastore, 1, 0, 0, 0, 0, 0)]
def kX12_swap_11 : List JI := [(.aload_n 0, 1, 0, 0, 0, 0, 0),
  (.getfield 152, 3, 12, 59, 4, 0, 149),
  (.iload_n 1, 1, 1, 0, 0, 0, 0),
  (.iaload, 1, 0, 0, 0, 0, 0),
  (.ireturn, 1, 0, 0, 0, 0, 0)]
theorem qq_X12_swap : (jchk 148 0 kX12_swap_0 && jchk 148 11 kX12_swap_11) = true := by decide +kernel
theorem qX12_swap_0 : jchk 148 0 kX12_swap_0 = true := jb1 (qq_X12_swap)
theorem qX12_swap_11 : jchk 148 11 kX12_swap_11 = true := jb2 (qq_X12_swap)
def kX12_aside_0 : List JI := [(.aload_n 0, 1, 0, 0, 0, 0, 0),
  (.aload_n 0, 1, 0, 0, 0, 0, 0),
  (.iconst 0, 1, 0, 0, 0, 0, 0),
  (.aload_n 0, 1, 0, 0, 0, 0, 0),
  (.getfield 184, 3, 12, 0, 1, 0, 187),
  (.iload_n 1, 1, 1, 0, 0, 0, 0),
  (.invokevirtual 273, 3, 148, 3, 0, 12, 371),
  (.putfield 184, 3, 12, 0, 1, 0, 187),
  (.aload_n 0, 1, 0, 0, 0, 0, 0),
  (.aload_n 0, 1, 0, 0, 0, 0, 0),
  (.iconst 1, 1, 0, 1, 0, 0, 0),
  (.aload_n 0, 1, 0, 0, 0, 0, 0),
  (.getfield 216, 3, 12, 30, 1, 0, 267),
  (.iload_n 1, 1, 1, 0, 0, 0, 0),
  (.invokevirtual 273, 3, 148, 3, 0, 12, 371),
  (.putfield 216, 3, 12, 30, 1, 0, 267),
  (.aload_n 0, 1, 0, 0, 0, 0, 0),
  (.aload_n 0, 1, 0, 0, 0, 0, 0),
  (.iconst 2, 1, 0, 2, 0, 0, 0),
  (.aload_n 0, 1, 0, 0, 0, 0, 0),
  (.getfield 219, 3, 12, 31, 1, 0, 268),
  (.iload_n 1, 1, 1, 0, 0, 0, 0),
  (.invokevirtual 273, 3, 148, 3, 0, 12, 371),
  (.putfield 219, 3, 12, 31, 1, 0, 268),
  (.aload_n 0, 1, 0, 0, 0, 0, 0),
  (.aload_n 0, 1, 0, 0, 0, 0, 0),
  (.iconst 3, 1, 0, 3, 0, 0, 0),
  (.aload_n 0, 1, 0, 0, 0, 0, 0),
  (.getfield 213, 3, 12, 32, 1, 0, 266),
  (.iload_n 1, 1, 1, 0, 0, 0, 0),
  (.invokevirtual 273, 3, 148, 3, 0, 12, 371),
  (.putfield 213, 3, 12, 32, 1, 0, 266),
  (.iconst 0, 1, 0, 0, 0, 0, 0),
  (.istore_n 2, 1, 2, 0, 0, 0, 0)]
def kX12_aside_58 : List JI := [(.iload_n 2, 1, 2, 0, 0, 0, 0),
  (.bipush 6, 2, 0, 6, 0, 0, 0),
  (.if_icmp .ge 50, 3, 111, 0, 0, 0, 0),
  (.aload_n 0, 1, 0, 0, 0, 0, 0),
  (.getfield 22, 3, 12, 5, 4, 0, 106),
  (.iload_n 2, 1, 2, 0, 0, 0, 0),
  (.aload_n 0, 1, 0, 0, 0, 0, 0),
  (.iconst 4, 1, 0, 4, 0, 0, 0),
  (.iload_n 2, 1, 2, 0, 0, 0, 0),
  (.iadd, 1, 0, 0, 0, 0, 0),
  (.aload_n 0, 1, 0, 0, 0, 0, 0),
  (.getfield 22, 3, 12, 5, 4, 0, 106),
  (.iload_n 2, 1, 2, 0, 0, 0, 0),
  (.iaload, 1, 0, 0, 0, 0, 0),
  (.iload_n 1, 1, 1, 0, 0, 0, 0),
  (.invokevirtual 273, 3, 148, 3, 0, 12, 371),
  (.iastore, 1, 0, 0, 0, 0, 0),
  (.aload_n 0, 1, 0, 0, 0, 0, 0),
  (.getfield 86, 3, 12, 28, 4, 0, 127),
  (.iload_n 2, 1, 2, 0, 0, 0, 0),
  (.aload_n 0, 1, 0, 0, 0, 0, 0),
  (.bipush 10, 2, 0, 10, 0, 0, 0),
  (.iload_n 2, 1, 2, 0, 0, 0, 0),
  (.iadd, 1, 0, 0, 0, 0, 0),
  (.aload_n 0, 1, 0, 0, 0, 0, 0),
  (.getfield 86, 3, 12, 28, 4, 0, 127),
  (.iload_n 2, 1, 2, 0, 0, 0, 0),
  (.iaload, 1, 0, 0, 0, 0, 0),
  (.iload_n 1, 1, 1, 0, 0, 0, 0),
  (.invokevirtual 273, 3, 148, 3, 0, 12, 371),
  (.iastore, 1, 0, 0, 0, 0, 0),
  (.iinc 2 1, 3, 2, 1, 0, 0, 0),
  (.goto (-50), 3, 58, 0, 0, 0, 0)]
def kX12_aside_111 : List JI := [(.iconst 0, 1, 0, 0, 0, 0, 0),
  (.istore_n 2, 1, 2, 0, 0, 0, 0)]
def kX12_aside_113 : List JI := [(.iload_n 2, 1, 2, 0, 0, 0, 0),
  (.bipush 16, 2, 0, 16, 0, 0, 0),
  (.if_icmp .ge 246, 3, 362, 0, 0, 0, 0),
  (.bipush 20, 2, 0, 20, 0, 0, 0),
  (.bipush 16, 2, 0, 16, 0, 0, 0),
  (.iload_n 2, 1, 2, 0, 0, 0, 0),
  (.imul, 1, 0, 0, 0, 0, 0),
  (.iadd, 1, 0, 0, 0, 0, 0),
  (.istore_n 3, 1, 3, 0, 0, 0, 0),
  (.aload_n 0, 1, 0, 0, 0, 0, 0),
  (.getfield 55, 3, 12, 18, 4, 0, 117),
  (.iload_n 2, 1, 2, 0, 0, 0, 0),
  (.aload_n 0, 1, 0, 0, 0, 0, 0),
  (.iload_n 3, 1, 3, 0, 0, 0, 0),
  (.aload_n 0, 1, 0, 0, 0, 0, 0),
  (.getfield 55, 3, 12, 18, 4, 0, 117),
  (.iload_n 2, 1, 2, 0, 0, 0, 0),
  (.iaload, 1, 0, 0, 0, 0, 0),
  (.iload_n 1, 1, 1, 0, 0, 0, 0),
  (.invokevirtual 273, 3, 148, 3, 0, 12, 371),
  (.iastore, 1, 0, 0, 0, 0, 0),
  (.aload_n 0, 1, 0, 0, 0, 0, 0),
  (.getfield 58, 3, 12, 19, 4, 0, 118),
  (.iload_n 2, 1, 2, 0, 0, 0, 0),
  (.aload_n 0, 1, 0, 0, 0, 0, 0),
  (.iload_n 3, 1, 3, 0, 0, 0, 0),
  (.iconst 1, 1, 0, 1, 0, 0, 0),
  (.iadd, 1, 0, 0, 0, 0, 0),
  (.aload_n 0, 1, 0, 0, 0, 0, 0),
  (.getfield 58, 3, 12, 19, 4, 0, 118),
  (.iload_n 2, 1, 2, 0, 0, 0, 0),
  (.iaload, 1, 0, 0, 0, 0, 0),
  (.iload_n 1, 1, 1, 0, 0, 0, 0),
  (.invokevirtual 273, 3, 148, 3, 0, 12, 371),
  (.iastore, 1, 0, 0, 0, 0, 0),
  (.aload_n 0, 1, 0, 0, 0, 0, 0),
  (.getfield 61, 3, 12, 20, 4, 0, 119),
  (.iload_n 2, 1, 2, 0, 0, 0, 0),
  (.aload_n 0, 1, 0, 0, 0, 0, 0),
  (.iload_n 3, 1, 3, 0, 0, 0, 0),
  (.iconst 2, 1, 0, 2, 0, 0, 0),
  (.iadd, 1, 0, 0, 0, 0, 0),
  (.aload_n 0, 1, 0, 0, 0, 0, 0),
  (.getfield 61, 3, 12, 20, 4, 0, 119),
  (.iload_n 2, 1, 2, 0, 0, 0, 0),
  (.iaload, 1, 0, 0, 0, 0, 0),
  (.iload_n 1, 1, 1, 0, 0, 0, 0),
  (.invokevirtual 273, 3, 148, 3, 0, 12, 371),
  (.iastore, 1, 0, 0, 0, 0, 0),
  (.aload_n 0, 1, 0, 0, 0, 0, 0),
  (.getfield 64, 3, 12, 21, 4, 0, 120),
  (.iload_n 2, 1, 2, 0, 0, 0, 0),
  (.aload_n 0, 1, 0, 0, 0, 0, 0),
  (.iload_n 3, 1, 3, 0, 0, 0, 0),
  (.iconst 3, 1, 0, 3, 0, 0, 0),
  (.iadd, 1, 0, 0, 0, 0, 0),
  (.aload_n 0, 1, 0, 0, 0, 0, 0),
  (.getfield 64, 3, 12, 21, 4, 0, 120),
  (.iload_n 2, 1, 2, 0, 0, 0, 0),
  (.iaload, 1, 0, 0, 0, 0, 0),
  (.iload_n 1, 1, 1, 0, 0, 0, 0),
  (.invokevirtual 273, 3, 148, 3, 0, 12, 371),
  (.iastore, 1, 0, 0, 0, 0, 0),
  (.aload_n 0, 1, 0, 0, 0, 0, 0),
  (.getfield 67, 3, 12, 22, 4, 0, 121),
  (.iload_n 2, 1, 2, 0, 0, 0, 0),
  (.aload_n 0, 1, 0, 0, 0, 0, 0),
  (.iload_n 3, 1, 3, 0, 0, 0, 0),
  (.iconst 4, 1, 0, 4, 0, 0, 0),
  (.iadd, 1, 0, 0, 0, 0, 0),
  (.aload_n 0, 1, 0, 0, 0, 0, 0),
  (.getfield 67, 3, 12, 22, 4, 0, 121),
  (.iload_n 2, 1, 2, 0, 0, 0, 0),
  (.baload, 1, 0, 0, 0, 0, 0),
  (.ifCond .eq 7, 3, 227, 0, 0, 0, 0),
  (.iconst 1, 1, 0, 1, 0, 0, 0),
  (.goto 4, 3, 228, 0, 0, 0, 0)]
def kX12_aside_227 : List JI := [(.iconst 0, 1, 0, 0, 0, 0, 0)]
def kX12_aside_228 : List JI := [(.iload_n 1, 1, 1, 0, 0, 0, 0),
  (.invokevirtual 273, 3, 148, 3, 0, 12, 371),
  (.iconst 1, 1, 0, 1, 0, 0, 0),
  (.if_icmp .ne 7, 3, 240, 0, 0, 0, 0),
  (.iconst 1, 1, 0, 1, 0, 0, 0),
  (.goto 4, 3, 241, 0, 0, 0, 0)]
def kX12_aside_240 : List JI := [(.iconst 0, 1, 0, 0, 0, 0, 0)]
def kX12_aside_241 : List JI := [(.bastore, 1, 0, 0, 0, 0, 0),
  (.aload_n 0, 1, 0, 0, 0, 0, 0),
  (.getfield 71, 3, 12, 23, 4, 0, 122),
  (.iload_n 2, 1, 2, 0, 0, 0, 0),
  (.aload_n 0, 1, 0, 0, 0, 0, 0),
  (.iload_n 3, 1, 3, 0, 0, 0, 0),
  (.iconst 5, 1, 0, 5, 0, 0, 0),
  (.iadd, 1, 0, 0, 0, 0, 0),
  (.aload_n 0, 1, 0, 0, 0, 0, 0),
  (.getfield 71, 3, 12, 23, 4, 0, 122),
  (.iload_n 2, 1, 2, 0, 0, 0, 0),
  (.iaload, 1, 0, 0, 0, 0, 0),
  (.iload_n 1, 1, 1, 0, 0, 0, 0),
  (.invokevirtual 273, 3, 148, 3, 0, 12, 371),
  (.iastore, 1, 0, 0, 0, 0, 0),
  (.aload_n 0, 1, 0, 0, 0, 0, 0),
  (.getfield 74, 3, 12, 24, 4, 0, 123),
  (.iload_n 2, 1, 2, 0, 0, 0, 0),
  (.aload_n 0, 1, 0, 0, 0, 0, 0),
  (.iload_n 3, 1, 3, 0, 0, 0, 0),
  (.bipush 6, 2, 0, 6, 0, 0, 0),
  (.iadd, 1, 0, 0, 0, 0, 0),
  (.aload_n 0, 1, 0, 0, 0, 0, 0),
  (.getfield 74, 3, 12, 24, 4, 0, 123),
  (.iload_n 2, 1, 2, 0, 0, 0, 0),
  (.iaload, 1, 0, 0, 0, 0, 0),
  (.iload_n 1, 1, 1, 0, 0, 0, 0),
  (.invokevirtual 273, 3, 148, 3, 0, 12, 371),
  (.iastore, 1, 0, 0, 0, 0, 0),
  (.aload_n 0, 1, 0, 0, 0, 0, 0),
  (.getfield 49, 3, 12, 16, 4, 0, 115),
  (.iload_n 2, 1, 2, 0, 0, 0, 0),
  (.aload_n 0, 1, 0, 0, 0, 0, 0),
  (.iload_n 3, 1, 3, 0, 0, 0, 0),
  (.bipush 7, 2, 0, 7, 0, 0, 0),
  (.iadd, 1, 0, 0, 0, 0, 0),
  (.aload_n 0, 1, 0, 0, 0, 0, 0),
  (.getfield 49, 3, 12, 16, 4, 0, 115),
  (.iload_n 2, 1, 2, 0, 0, 0, 0),
  (.iaload, 1, 0, 0, 0, 0, 0),
  (.iload_n 1, 1, 1, 0, 0, 0, 0),
  (.invokevirtual 273, 3, 148, 3, 0, 12, 371),
  (.iastore, 1, 0, 0, 0, 0, 0),
  (.iconst 0, 1, 0, 0, 0, 0, 0),
  (.istore 4, 2, 4, 0, 0, 0, 0)]
def kX12_aside_307 : List JI := [(.iload 4, 2, 4, 0, 0, 0, 0),
  (.bipush 6, 2, 0, 6, 0, 0, 0),
  (.if_icmp .ge 45, 3, 356, 0, 0, 0, 0),
  (.aload_n 0, 1, 0, 0, 0, 0, 0),
  (.getfield 77, 3, 12, 25, 4, 0, 124),
  (.bipush 6, 2, 0, 6, 0, 0, 0),
  (.iload_n 2, 1, 2, 0, 0, 0, 0),
  (.imul, 1, 0, 0, 0, 0, 0),
  (.iload 4, 2, 4, 0, 0, 0, 0),
  (.iadd, 1, 0, 0, 0, 0, 0),
  (.aload_n 0, 1, 0, 0, 0, 0, 0),
  (.iload_n 3, 1, 3, 0, 0, 0, 0),
  (.bipush 8, 2, 0, 8, 0, 0, 0),
  (.iadd, 1, 0, 0, 0, 0, 0),
  (.iload 4, 2, 4, 0, 0, 0, 0),
  (.iadd, 1, 0, 0, 0, 0, 0),
  (.aload_n 0, 1, 0, 0, 0, 0, 0),
  (.getfield 77, 3, 12, 25, 4, 0, 124),
  (.bipush 6, 2, 0, 6, 0, 0, 0),
  (.iload_n 2, 1, 2, 0, 0, 0, 0),
  (.imul, 1, 0, 0, 0, 0, 0),
  (.iload 4, 2, 4, 0, 0, 0, 0),
  (.iadd, 1, 0, 0, 0, 0, 0),
  (.iaload, 1, 0, 0, 0, 0, 0),
  (.iload_n 1, 1, 1, 0, 0, 0, 0),
  (.invokevirtual 273, 3, 148, 3, 0, 12, 371),
  (.iastore, 1, 0, 0, 0, 0, 0),
  (.iinc 4 1, 3, 4, 1, 0, 0, 0),
  (.goto (-46), 3, 307, 0, 0, 0, 0)]
def kX12_aside_356 : List JI := [(.iinc 2 1, 3, 2, 1, 0, 0, 0),
  (.goto (-246), 3, 113, 0, 0, 0, 0)]
def kX12_aside_362 : List JI := [(.iconst 0, 1, 0, 0, 0, 0, 0),
  (.istore_n 2, 1, 2, 0, 0, 0, 0)]
def kX12_aside_364 : List JI := [(.iload_n 2, 1, 2, 0, 0, 0, 0),
  (.bipush 96, 2, 0, 96, 0, 0, 0),
  (.if_icmp .ge 46, 3, 413, 0, 0, 0, 0),
  (.aload_n 0, 1, 0, 0, 0, 0, 0),
  (.getfield 155, 3, 12, 60, 4, 0, 150),
  (.iload_n 2, 1, 2, 0, 0, 0, 0),
  (.iload_n 1, 1, 1, 0, 0, 0, 0),
  (.ifCond .eq 12, 3, 388, 0, 0, 0, 0),
  (.aload_n 0, 1, 0, 0, 0, 0, 0),
  (.getfield 155, 3, 12, 60, 4, 0, 150),
  (.iload_n 2, 1, 2, 0, 0, 0, 0),
  (.iaload, 1, 0, 0, 0, 0, 0),
  (.goto 9, 3, 394, 0, 0, 0, 0)]
def kX12_aside_388 : List JI := [(.aload_n 0, 1, 0, 0, 0, 0, 0),
  (.getfield 80, 3, 12, 26, 4, 0, 125),
  (.iload_n 2, 1, 2, 0, 0, 0, 0),
  (.iaload, 1, 0, 0, 0, 0, 0)]
def kX12_aside_394 : List JI := [(.iastore, 1, 0, 0, 0, 0, 0),
  (.aload_n 0, 1, 0, 0, 0, 0, 0),
  (.getfield 80, 3, 12, 26, 4, 0, 125),
  (.iload_n 2, 1, 2, 0, 0, 0, 0),
  (.aload_n 0, 1, 0, 0, 0, 0, 0),
  (.getfield 155, 3, 12, 60, 4, 0, 150),
  (.iload_n 2, 1, 2, 0, 0, 0, 0),
  (.iaload, 1, 0, 0, 0, 0, 0),
  (.iastore, 1, 0, 0, 0, 0, 0),
  (.iinc 2 1, 3, 2, 1, 0, 0, 0),
  (.goto (-46), 3, 364, 0, 0, 0, 0)]
def kX12_aside_413 : List JI := [(.return_, 1, 0, 0, 0, 0, 0)]
theorem qq_X12_aside : (((jchk 149 0 kX12_aside_0 && (jchk 149 58 kX12_aside_58 && jchk 149 111 kX12_aside_111)) && ((jchk 149 113 kX12_aside_113 && jchk 149 227 kX12_aside_227) && (jchk 149 228 kX12_aside_228 && jchk 149 240 kX12_aside_240))) && (((jchk 149 241 kX12_aside_241 && jchk 149 307 kX12_aside_307) && (jchk 149 356 kX12_aside_356 && jchk 149 362 kX12_aside_362)) && ((jchk 149 364 kX12_aside_364 && jchk 149 388 kX12_aside_388) && (jchk 149 394 kX12_aside_394 && jchk 149 413 kX12_aside_413)))) = true := by decide +kernel
theorem qX12_aside_0 : jchk 149 0 kX12_aside_0 = true := jb1 (jb1 (jb1 (qq_X12_aside)))
theorem qX12_aside_58 : jchk 149 58 kX12_aside_58 = true := jb1 (jb2 (jb1 (jb1 (qq_X12_aside))))
theorem qX12_aside_111 : jchk 149 111 kX12_aside_111 = true := jb2 (jb2 (jb1 (jb1 (qq_X12_aside))))
theorem qX12_aside_113 : jchk 149 113 kX12_aside_113 = true := jb1 (jb1 (jb2 (jb1 (qq_X12_aside))))
theorem qX12_aside_227 : jchk 149 227 kX12_aside_227 = true := jb2 (jb1 (jb2 (jb1 (qq_X12_aside))))
theorem qX12_aside_228 : jchk 149 228 kX12_aside_228 = true := jb1 (jb2 (jb2 (jb1 (qq_X12_aside))))
theorem qX12_aside_240 : jchk 149 240 kX12_aside_240 = true := jb2 (jb2 (jb2 (jb1 (qq_X12_aside))))
theorem qX12_aside_241 : jchk 149 241 kX12_aside_241 = true := jb1 (jb1 (jb1 (jb2 (qq_X12_aside))))
theorem qX12_aside_307 : jchk 149 307 kX12_aside_307 = true := jb2 (jb1 (jb1 (jb2 (qq_X12_aside))))
theorem qX12_aside_356 : jchk 149 356 kX12_aside_356 = true := jb1 (jb2 (jb1 (jb2 (qq_X12_aside))))
theorem qX12_aside_362 : jchk 149 362 kX12_aside_362 = true := jb2 (jb2 (jb1 (jb2 (qq_X12_aside))))
theorem qX12_aside_364 : jchk 149 364 kX12_aside_364 = true := jb1 (jb1 (jb2 (jb2 (qq_X12_aside))))
theorem qX12_aside_388 : jchk 149 388 kX12_aside_388 = true := jb2 (jb1 (jb2 (jb2 (qq_X12_aside))))
theorem qX12_aside_394 : jchk 149 394 kX12_aside_394 = true := jb1 (jb2 (jb2 (jb2 (qq_X12_aside))))
theorem qX12_aside_413 : jchk 149 413 kX12_aside_413 = true := jb2 (jb2 (jb2 (jb2 (qq_X12_aside))))
def kX12_goAhead_0 : List JI := [(.iconst 0, 1, 0, 0, 0, 0, 0),
  (.istore_n 1, 1, 1, 0, 0, 0, 0)]
def kX12_goAhead_2 : List JI := [(.iload_n 1, 1, 1, 0, 0, 0, 0),
  (.sipush 300, 3, 0, 300, 0, 0, 0),
  (.if_icmp .ge 14, 3, 20, 0, 0, 0, 0),
  (.aload_n 0, 1, 0, 0, 0, 0, 0),
  (.invokevirtual 236, 3, 94, 0, 0, 12, 273),
  (.istore_n 2, 1, 2, 0, 0, 0, 0),
  (.iinc 1 1, 3, 1, 1, 0, 0, 0),
  (.goto (-15), 3, 2, 0, 0, 0, 0)]
def kX12_goAhead_20 : List JI := [(.return_, 1, 0, 0, 0, 0, 0)]
theorem qq_X12_goAhead : (jchk 150 0 kX12_goAhead_0 && (jchk 150 2 kX12_goAhead_2 && jchk 150 20 kX12_goAhead_20)) = true := by decide +kernel
theorem qX12_goAhead_0 : jchk 150 0 kX12_goAhead_0 = true := jb1 (qq_X12_goAhead)
theorem qX12_goAhead_2 : jchk 150 2 kX12_goAhead_2 = true := jb1 (jb2 (qq_X12_goAhead))
theorem qX12_goAhead_20 : jchk 150 20 kX12_goAhead_20 = true := jb2 (jb2 (qq_X12_goAhead))
def kX12_ready_0 : List JI := [(.aload_n 0, 1, 0, 0, 0, 0, 0),
  (.iload_n 1, 1, 1, 0, 0, 0, 0),
  (.invokevirtual 198, 3, 63, 1, 0, 12, 214),
  (.ifCond .ne 9, 3, 14, 0, 0, 0, 0),
  (.aload_n 0, 1, 0, 0, 0, 0, 0),
  (.iconst (-1), 1, 0, -1, 0, 0, 0),
  (.invokevirtual 172, 3, 20, 1, 0, 12, 163),
  (.ireturn, 1, 0, 0, 0, 0, 0)]
def kX12_ready_14 : List JI := [(.aload_n 0, 1, 0, 0, 0, 0, 0),
  (.getfield 55, 3, 12, 18, 4, 0, 117),
  (.iload_n 1, 1, 1, 0, 0, 0, 0),
  (.iaload, 1, 0, 0, 0, 0, 0),
  (.iconst 3, 1, 0, 3, 0, 0, 0),
  (.if_icmp .ne 10, 3, 31, 0, 0, 0, 0),
  (.aload_n 0, 1, 0, 0, 0, 0, 0),
  (.bipush (-3), 2, 0, -3, 0, 0, 0),
  (.invokevirtual 172, 3, 20, 1, 0, 12, 163),
  (.ireturn, 1, 0, 0, 0, 0, 0)]
def kX12_ready_31 : List JI := [(.aload_n 0, 1, 0, 0, 0, 0, 0),
  (.getfield 55, 3, 12, 18, 4, 0, 117),
  (.iload_n 1, 1, 1, 0, 0, 0, 0),
  (.iaload, 1, 0, 0, 0, 0, 0),
  (.iconst 2, 1, 0, 2, 0, 0, 0),
  (.if_icmp .ne 10, 3, 48, 0, 0, 0, 0),
  (.aload_n 0, 1, 0, 0, 0, 0, 0),
  (.getfield 74, 3, 12, 24, 4, 0, 123),
  (.iload_n 1, 1, 1, 0, 0, 0, 0),
  (.iaload, 1, 0, 0, 0, 0, 0),
  (.ireturn, 1, 0, 0, 0, 0, 0)]
def kX12_ready_48 : List JI := [(.aload_n 0, 1, 0, 0, 0, 0, 0),
  (.iconst 0, 1, 0, 0, 0, 0, 0),
  (.invokevirtual 277, 3, 149, 1, 0, 12, 372),
  (.aload_n 0, 1, 0, 0, 0, 0, 0),
  (.invokevirtual 281, 3, 150, 0, 0, 12, 373),
  (.aload_n 0, 1, 0, 0, 0, 0, 0),
  (.getfield 74, 3, 12, 24, 4, 0, 123),
  (.iload_n 1, 1, 1, 0, 0, 0, 0),
  (.iaload, 1, 0, 0, 0, 0, 0),
  (.istore_n 2, 1, 2, 0, 0, 0, 0),
  (.aload_n 0, 1, 0, 0, 0, 0, 0),
  (.iconst 1, 1, 0, 1, 0, 0, 0),
  (.invokevirtual 277, 3, 149, 1, 0, 12, 372),
  (.iload_n 2, 1, 2, 0, 0, 0, 0),
  (.ireturn, 1, 0, 0, 0, 0, 0)]
theorem qq_X12_ready : ((jchk 151 0 kX12_ready_0 && jchk 151 14 kX12_ready_14) && (jchk 151 31 kX12_ready_31 && jchk 151 48 kX12_ready_48)) = true := by decide +kernel
theorem qX12_ready_0 : jchk 151 0 kX12_ready_0 = true := jb1 (jb1 (qq_X12_ready))
theorem qX12_ready_14 : jchk 151 14 kX12_ready_14 = true := jb2 (jb1 (qq_X12_ready))
theorem qX12_ready_31 : jchk 151 31 kX12_ready_31 = true := jb1 (jb2 (qq_X12_ready))
theorem qX12_ready_48 : jchk 151 48 kX12_ready_48 = true := jb2 (jb2 (qq_X12_ready))
def kX11_lateness_0 : List JI := [(.iload_n 0, 1, 0, 0, 0, 0, 0),
  (.bipush (-9), 2, 0, -9, 0, 0, 0),
  (.if_icmp .ne 13, 3, 16, 0, 0, 0, 0),
  (.iload_n 2, 1, 2, 0, 0, 0, 0),
  (.sipush 300, 3, 0, 300, 0, 0, 0),
  (.iadd, 1, 0, 0, 0, 0, 0),
  (.iconst 1, 1, 0, 1, 0, 0, 0),
  (.iadd, 1, 0, 0, 0, 0, 0),
  (.goto 4, 3, 17, 0, 0, 0, 0)]
def kX11_lateness_16 : List JI := [(.iload_n 0, 1, 0, 0, 0, 0, 0)]
def kX11_lateness_17 : List JI := [(.istore_n 3, 1, 3, 0, 0, 0, 0),
  (.iconst 0, 1, 0, 0, 0, 0, 0),
  (.iload_n 3, 1, 3, 0, 0, 0, 0),
  (.iload_n 1, 1, 1, 0, 0, 0, 0),
  (.isub, 1, 0, 0, 0, 0, 0),
  (.invokestatic 369, 3, 997, 1, 0, 0, 374),
  (.ireturn, 1, 0, 0, 0, 0, 0)]
theorem qq_X11_lateness : (jchk 152 0 kX11_lateness_0 && (jchk 152 16 kX11_lateness_16 && jchk 152 17 kX11_lateness_17)) = true := by decide +kernel
theorem qX11_lateness_0 : jchk 152 0 kX11_lateness_0 = true := jb1 (qq_X11_lateness)
theorem qX11_lateness_16 : jchk 152 16 kX11_lateness_16 = true := jb1 (jb2 (qq_X11_lateness))
theorem qX11_lateness_17 : jchk 152 17 kX11_lateness_17 = true := jb2 (jb2 (qq_X11_lateness))
def kX11_late_0 : List JI := [(.aload_n 0, 1, 0, 0, 0, 0, 0),
  (.iload_n 1, 1, 1, 0, 0, 0, 0),
  (.invokevirtual 188, 3, 60, 1, 0, 11, 210),
  (.ifCond .ne 7, 3, 12, 0, 0, 0, 0),
  (.iconst (-1), 1, 0, -1, 0, 0, 0),
  (.goto 24, 3, 33, 0, 0, 0, 0)]
def kX11_late_12 : List JI := [(.aload_n 0, 1, 0, 0, 0, 0, 0),
  (.getfield 37, 3, 11, 5, 4, 0, 82),
  (.getfield 191, 3, 10, 3, 4, 0, 211),
  (.iload_n 1, 1, 1, 0, 0, 0, 0),
  (.aaload, 1, 0, 0, 0, 0, 0),
  (.invokevirtual 195, 3, 61, 0, 0, 4, 212),
  (.ifCond .ne 8, 3, 32, 0, 0, 0, 0),
  (.bipush (-3), 2, 0, -3, 0, 0, 0),
  (.goto 4, 3, 33, 0, 0, 0, 0)]
def kX11_late_32 : List JI := [(.iconst 0, 1, 0, 0, 0, 0, 0)]
def kX11_late_33 : List JI := [(.istore_n 2, 1, 2, 0, 0, 0, 0),
  (.iload_n 2, 1, 2, 0, 0, 0, 0),
  (.ifCond .eq 9, 3, 44, 0, 0, 0, 0),
  (.aload_n 0, 1, 0, 0, 0, 0, 0),
  (.iload_n 2, 1, 2, 0, 0, 0, 0),
  (.invokevirtual 93, 3, 16, 1, 0, 11, 159),
  (.ireturn, 1, 0, 0, 0, 0, 0)]
def kX11_late_44 : List JI := [(.aload_n 0, 1, 0, 0, 0, 0, 0),
  (.iload_n 1, 1, 1, 0, 0, 0, 0),
  (.invokevirtual 308, 3, 146, 1, 0, 11, 370),
  (.aload_n 0, 1, 0, 0, 0, 0, 0),
  (.getfield 37, 3, 11, 5, 4, 0, 82),
  (.getfield 191, 3, 10, 3, 4, 0, 211),
  (.iload_n 1, 1, 1, 0, 0, 0, 0),
  (.aaload, 1, 0, 0, 0, 0, 0),
  (.getfield 311, 3, 4, 2, 1, 0, 375),
  (.aload_n 0, 1, 0, 0, 0, 0, 0),
  (.getfield 147, 3, 11, 0, 1, 0, 182),
  (.invokestatic 314, 3, 152, 3, 0, 11, 376),
  (.ireturn, 1, 0, 0, 0, 0, 0)]
theorem qq_X11_late : ((jchk 153 0 kX11_late_0 && jchk 153 12 kX11_late_12) && (jchk 153 32 kX11_late_32 && (jchk 153 33 kX11_late_33 && jchk 153 44 kX11_late_44))) = true := by decide +kernel
theorem qX11_late_0 : jchk 153 0 kX11_late_0 = true := jb1 (jb1 (qq_X11_late))
theorem qX11_late_12 : jchk 153 12 kX11_late_12 = true := jb2 (jb1 (qq_X11_late))
theorem qX11_late_32 : jchk 153 32 kX11_late_32 = true := jb1 (jb2 (qq_X11_late))
theorem qX11_late_33 : jchk 153 33 kX11_late_33 = true := jb1 (jb2 (jb2 (qq_X11_late)))
theorem qX11_late_44 : jchk 153 44 kX11_late_44 = true := jb2 (jb2 (jb2 (qq_X11_late)))
def kX12_lateBy_0 : List JI := [(.iload_n 0, 1, 0, 0, 0, 0, 0),
  (.ifCond .ge 11, 3, 12, 0, 0, 0, 0),
  (.iload_n 1, 1, 1, 0, 0, 0, 0),
  (.sipush 301, 3, 0, 301, 0, 0, 0),
  (.iadd, 1, 0, 0, 0, 0, 0),
  (.goto 4, 3, 13, 0, 0, 0, 0)]
def kX12_lateBy_12 : List JI := [(.iload_n 0, 1, 0, 0, 0, 0, 0)]
def kX12_lateBy_13 : List JI := [(.iload_n 2, 1, 2, 0, 0, 0, 0),
  (.isub, 1, 0, 0, 0, 0, 0),
  (.istore_n 3, 1, 3, 0, 0, 0, 0),
  (.iload_n 3, 1, 3, 0, 0, 0, 0),
  (.ifCond .le 7, 3, 24, 0, 0, 0, 0),
  (.iload_n 3, 1, 3, 0, 0, 0, 0),
  (.goto 4, 3, 25, 0, 0, 0, 0)]
def kX12_lateBy_24 : List JI := [(.iconst 0, 1, 0, 0, 0, 0, 0)]
def kX12_lateBy_25 : List JI := [(.ireturn, 1, 0, 0, 0, 0, 0)]
theorem qq_X12_lateBy : ((jchk 154 0 kX12_lateBy_0 && jchk 154 12 kX12_lateBy_12) && (jchk 154 13 kX12_lateBy_13 && (jchk 154 24 kX12_lateBy_24 && jchk 154 25 kX12_lateBy_25))) = true := by decide +kernel
theorem qX12_lateBy_0 : jchk 154 0 kX12_lateBy_0 = true := jb1 (jb1 (qq_X12_lateBy))
theorem qX12_lateBy_12 : jchk 154 12 kX12_lateBy_12 = true := jb2 (jb1 (qq_X12_lateBy))
theorem qX12_lateBy_13 : jchk 154 13 kX12_lateBy_13 = true := jb1 (jb2 (qq_X12_lateBy))
theorem qX12_lateBy_24 : jchk 154 24 kX12_lateBy_24 = true := jb1 (jb2 (jb2 (qq_X12_lateBy)))
theorem qX12_lateBy_25 : jchk 154 25 kX12_lateBy_25 = true := jb2 (jb2 (jb2 (qq_X12_lateBy)))
def kX12_late_0 : List JI := [(.aload_n 0, 1, 0, 0, 0, 0, 0),
  (.iload_n 1, 1, 1, 0, 0, 0, 0),
  (.invokevirtual 198, 3, 63, 1, 0, 12, 214),
  (.ifCond .ne 9, 3, 14, 0, 0, 0, 0),
  (.aload_n 0, 1, 0, 0, 0, 0, 0),
  (.iconst (-1), 1, 0, -1, 0, 0, 0),
  (.invokevirtual 172, 3, 20, 1, 0, 12, 163),
  (.ireturn, 1, 0, 0, 0, 0, 0)]
def kX12_late_14 : List JI := [(.aload_n 0, 1, 0, 0, 0, 0, 0),
  (.getfield 55, 3, 12, 18, 4, 0, 117),
  (.iload_n 1, 1, 1, 0, 0, 0, 0),
  (.iaload, 1, 0, 0, 0, 0, 0),
  (.iconst 1, 1, 0, 1, 0, 0, 0),
  (.if_icmp .le 10, 3, 31, 0, 0, 0, 0),
  (.aload_n 0, 1, 0, 0, 0, 0, 0),
  (.bipush (-3), 2, 0, -3, 0, 0, 0),
  (.invokevirtual 172, 3, 20, 1, 0, 12, 163),
  (.ireturn, 1, 0, 0, 0, 0, 0)]
def kX12_late_31 : List JI := [(.aload_n 0, 1, 0, 0, 0, 0, 0),
  (.iconst 0, 1, 0, 0, 0, 0, 0),
  (.invokevirtual 277, 3, 149, 1, 0, 12, 372),
  (.aload_n 0, 1, 0, 0, 0, 0, 0),
  (.getfield 184, 3, 12, 0, 1, 0, 187),
  (.istore_n 2, 1, 2, 0, 0, 0, 0),
  (.aload_n 0, 1, 0, 0, 0, 0, 0),
  (.invokevirtual 281, 3, 150, 0, 0, 12, 373),
  (.aload_n 0, 1, 0, 0, 0, 0, 0),
  (.getfield 74, 3, 12, 24, 4, 0, 123),
  (.iload_n 1, 1, 1, 0, 0, 0, 0),
  (.iaload, 1, 0, 0, 0, 0, 0),
  (.iload_n 2, 1, 2, 0, 0, 0, 0),
  (.aload_n 0, 1, 0, 0, 0, 0, 0),
  (.getfield 52, 3, 12, 17, 4, 0, 116),
  (.iload_n 1, 1, 1, 0, 0, 0, 0),
  (.iaload, 1, 0, 0, 0, 0, 0),
  (.invokestatic 284, 3, 154, 3, 0, 12, 377),
  (.istore_n 3, 1, 3, 0, 0, 0, 0),
  (.aload_n 0, 1, 0, 0, 0, 0, 0),
  (.iconst 1, 1, 0, 1, 0, 0, 0),
  (.invokevirtual 277, 3, 149, 1, 0, 12, 372),
  (.iload_n 3, 1, 3, 0, 0, 0, 0),
  (.ireturn, 1, 0, 0, 0, 0, 0)]
theorem qq_X12_late : (jchk 155 0 kX12_late_0 && (jchk 155 14 kX12_late_14 && jchk 155 31 kX12_late_31)) = true := by decide +kernel
theorem qX12_late_0 : jchk 155 0 kX12_late_0 = true := jb1 (qq_X12_late)
theorem qX12_late_14 : jchk 155 14 kX12_late_14 = true := jb1 (jb2 (qq_X12_late))
theorem qX12_late_31 : jchk 155 31 kX12_late_31 = true := jb2 (jb2 (qq_X12_late))
def kX10_countOf_0 : List JI := [(.iconst 0, 1, 0, 0, 0, 0, 0),
  (.istore_n 2, 1, 2, 0, 0, 0, 0),
  (.iconst 0, 1, 0, 0, 0, 0, 0),
  (.istore_n 3, 1, 3, 0, 0, 0, 0)]
def kX10_countOf_4 : List JI := [(.iload_n 3, 1, 3, 0, 0, 0, 0),
  (.aload_n 0, 1, 0, 0, 0, 0, 0),
  (.getfield 40, 3, 10, 4, 1, 0, 205),
  (.if_icmp .ge 25, 3, 34, 0, 0, 0, 0),
  (.aload_n 0, 1, 0, 0, 0, 0, 0),
  (.getfield 23, 3, 10, 3, 4, 0, 25),
  (.iload_n 3, 1, 3, 0, 0, 0, 0),
  (.aaload, 1, 0, 0, 0, 0, 0),
  (.getfield 48, 3, 4, 3, 1, 0, 237),
  (.iload_n 1, 1, 1, 0, 0, 0, 0),
  (.if_icmp .ne 6, 3, 28, 0, 0, 0, 0),
  (.iinc 2 1, 3, 2, 1, 0, 0, 0)]
def kX10_countOf_28 : List JI := [(.iinc 3 1, 3, 3, 1, 0, 0, 0),
  (.goto (-27), 3, 4, 0, 0, 0, 0)]
def kX10_countOf_34 : List JI := [(.iload_n 2, 1, 2, 0, 0, 0, 0),
  (.ireturn, 1, 0, 0, 0, 0, 0)]
theorem qq_X10_countOf : ((jchk 156 0 kX10_countOf_0 && jchk 156 4 kX10_countOf_4) && (jchk 156 28 kX10_countOf_28 && jchk 156 34 kX10_countOf_34)) = true := by decide +kernel
theorem qX10_countOf_0 : jchk 156 0 kX10_countOf_0 = true := jb1 (jb1 (qq_X10_countOf))
theorem qX10_countOf_4 : jchk 156 4 kX10_countOf_4 = true := jb2 (jb1 (qq_X10_countOf))
theorem qX10_countOf_28 : jchk 156 28 kX10_countOf_28 = true := jb1 (jb2 (qq_X10_countOf))
theorem qX10_countOf_34 : jchk 156 34 kX10_countOf_34 = true := jb2 (jb2 (qq_X10_countOf))
def kX7_gatherByNumbers_0 : List JI := [(.aload_n 0, 1, 0, 0, 0, 0, 0),
  (.iconst 0, 1, 0, 0, 0, 0, 0),
  (.putfield 108, 3, 7, 2, 1, 0, 378),
  (.iconst 0, 1, 0, 0, 0, 0, 0),
  (.istore_n 2, 1, 2, 0, 0, 0, 0)]
def kX7_gatherByNumbers_7 : List JI := [(.iload_n 2, 1, 2, 0, 0, 0, 0),
  (.aload_n 1, 1, 1, 0, 0, 0, 0),
  (.getfield 124, 3, 10, 4, 1, 0, 379),
  (.if_icmp .ge 49, 3, 61, 0, 0, 0, 0),
  (.aload_n 0, 1, 0, 0, 0, 0, 0),
  (.getfield 108, 3, 7, 2, 1, 0, 378),
  (.iconst 5, 1, 0, 5, 0, 0, 0),
  (.if_icmp .ge 41, 3, 61, 0, 0, 0, 0),
  (.aload_n 1, 1, 1, 0, 0, 0, 0),
  (.getfield 88, 3, 10, 3, 4, 0, 354),
  (.iload_n 2, 1, 2, 0, 0, 0, 0),
  (.aaload, 1, 0, 0, 0, 0, 0),
  (.invokevirtual 127, 3, 61, 0, 0, 4, 380),
  (.ifCond .eq 23, 3, 55, 0, 0, 0, 0),
  (.aload_n 0, 1, 0, 0, 0, 0, 0),
  (.getfield 37, 3, 7, 8, 4, 0, 68),
  (.aload_n 0, 1, 0, 0, 0, 0, 0),
  (.getfield 108, 3, 7, 2, 1, 0, 378),
  (.iload_n 2, 1, 2, 0, 0, 0, 0),
  (.iastore, 1, 0, 0, 0, 0, 0),
  (.aload_n 0, 1, 0, 0, 0, 0, 0),
  (.dup, 1, 0, 0, 0, 0, 0),
  (.getfield 108, 3, 7, 2, 1, 0, 378),
  (.iconst 1, 1, 0, 1, 0, 0, 0),
  (.iadd, 1, 0, 0, 0, 0, 0),
  (.putfield 108, 3, 7, 2, 1, 0, 378)]
def kX7_gatherByNumbers_55 : List JI := [(.iinc 2 1, 3, 2, 1, 0, 0, 0),
  (.goto (-51), 3, 7, 0, 0, 0, 0)]
def kX7_gatherByNumbers_61 : List JI := [(.return_, 1, 0, 0, 0, 0, 0)]
theorem qq_X7_gatherByNumbers : ((jchk 157 0 kX7_gatherByNumbers_0 && jchk 157 7 kX7_gatherByNumbers_7) && (jchk 157 55 kX7_gatherByNumbers_55 && jchk 157 61 kX7_gatherByNumbers_61)) = true := by decide +kernel
theorem qX7_gatherByNumbers_0 : jchk 157 0 kX7_gatherByNumbers_0 = true := jb1 (jb1 (qq_X7_gatherByNumbers))
theorem qX7_gatherByNumbers_7 : jchk 157 7 kX7_gatherByNumbers_7 = true := jb2 (jb1 (qq_X7_gatherByNumbers))
theorem qX7_gatherByNumbers_55 : jchk 157 55 kX7_gatherByNumbers_55 = true := jb1 (jb2 (qq_X7_gatherByNumbers))
theorem qX7_gatherByNumbers_61 : jchk 157 61 kX7_gatherByNumbers_61 = true := jb2 (jb2 (qq_X7_gatherByNumbers))
def kX7_sumOfLate_0 : List JI := [(.iconst 0, 1, 0, 0, 0, 0, 0),
  (.istore_n 1, 1, 1, 0, 0, 0, 0),
  (.iconst 0, 1, 0, 0, 0, 0, 0),
  (.istore_n 2, 1, 2, 0, 0, 0, 0)]
def kX7_sumOfLate_4 : List JI := [(.iload_n 2, 1, 2, 0, 0, 0, 0),
  (.aload_n 0, 1, 0, 0, 0, 0, 0),
  (.getfield 108, 3, 7, 2, 1, 0, 378),
  (.if_icmp .ge 42, 3, 51, 0, 0, 0, 0),
  (.aload_n 0, 1, 0, 0, 0, 0, 0),
  (.getfield 30, 3, 7, 6, 4, 0, 66),
  (.getfield 88, 3, 10, 3, 4, 0, 354),
  (.aload_n 0, 1, 0, 0, 0, 0, 0),
  (.getfield 37, 3, 7, 8, 4, 0, 68),
  (.iload_n 2, 1, 2, 0, 0, 0, 0),
  (.iaload, 1, 0, 0, 0, 0, 0),
  (.aaload, 1, 0, 0, 0, 0, 0),
  (.astore_n 3, 1, 3, 0, 0, 0, 0),
  (.iload_n 1, 1, 1, 0, 0, 0, 0),
  (.aload_n 3, 1, 3, 0, 0, 0, 0),
  (.getfield 92, 3, 4, 9, 1, 0, 366),
  (.aload_n 3, 1, 3, 0, 0, 0, 0),
  (.getfield 131, 3, 4, 2, 1, 0, 381),
  (.aload_n 0, 1, 0, 0, 0, 0, 0),
  (.getfield 50, 3, 7, 3, 1, 0, 342),
  (.invokestatic 134, 3, 152, 3, 0, 11, 382),
  (.iadd, 1, 0, 0, 0, 0, 0),
  (.istore_n 1, 1, 1, 0, 0, 0, 0),
  (.iinc 2 1, 3, 2, 1, 0, 0, 0),
  (.goto (-44), 3, 4, 0, 0, 0, 0)]
def kX7_sumOfLate_51 : List JI := [(.iload_n 1, 1, 1, 0, 0, 0, 0),
  (.ireturn, 1, 0, 0, 0, 0, 0)]
theorem qq_X7_sumOfLate : (jchk 158 0 kX7_sumOfLate_0 && (jchk 158 4 kX7_sumOfLate_4 && jchk 158 51 kX7_sumOfLate_51)) = true := by decide +kernel
theorem qX7_sumOfLate_0 : jchk 158 0 kX7_sumOfLate_0 = true := jb1 (qq_X7_sumOfLate)
theorem qX7_sumOfLate_4 : jchk 158 4 kX7_sumOfLate_4 = true := jb1 (jb2 (qq_X7_sumOfLate))
theorem qX7_sumOfLate_51 : jchk 158 51 kX7_sumOfLate_51 = true := jb2 (jb2 (qq_X7_sumOfLate))
def kX7_swapTried_0 : List JI := [(.aload_n 0, 1, 0, 0, 0, 0, 0),
  (.getfield 37, 3, 7, 8, 4, 0, 68),
  (.iload_n 1, 1, 1, 0, 0, 0, 0),
  (.iaload, 1, 0, 0, 0, 0, 0),
  (.istore_n 3, 1, 3, 0, 0, 0, 0),
  (.aload_n 0, 1, 0, 0, 0, 0, 0),
  (.getfield 37, 3, 7, 8, 4, 0, 68),
  (.iload_n 1, 1, 1, 0, 0, 0, 0),
  (.aload_n 0, 1, 0, 0, 0, 0, 0),
  (.getfield 37, 3, 7, 8, 4, 0, 68),
  (.iload_n 2, 1, 2, 0, 0, 0, 0),
  (.iaload, 1, 0, 0, 0, 0, 0),
  (.iastore, 1, 0, 0, 0, 0, 0),
  (.aload_n 0, 1, 0, 0, 0, 0, 0),
  (.getfield 37, 3, 7, 8, 4, 0, 68),
  (.iload_n 2, 1, 2, 0, 0, 0, 0),
  (.iload_n 3, 1, 3, 0, 0, 0, 0),
  (.iastore, 1, 0, 0, 0, 0, 0),
  (.return_, 1, 0, 0, 0, 0, 0)]
theorem qX7_swapTried_0 : jchk 159 0 kX7_swapTried_0 = true := by decide +kernel
def kX7_nextOrder_0 : List JI := [(.aload_n 0, 1, 0, 0, 0, 0, 0),
  (.getfield 108, 3, 7, 2, 1, 0, 378),
  (.iconst 2, 1, 0, 2, 0, 0, 0),
  (.isub, 1, 0, 0, 0, 0, 0),
  (.istore_n 1, 1, 1, 0, 0, 0, 0)]
def kX7_nextOrder_7 : List JI := [(.iload_n 1, 1, 1, 0, 0, 0, 0),
  (.ifCond .lt 26, 3, 34, 0, 0, 0, 0),
  (.aload_n 0, 1, 0, 0, 0, 0, 0),
  (.getfield 37, 3, 7, 8, 4, 0, 68),
  (.iload_n 1, 1, 1, 0, 0, 0, 0),
  (.iaload, 1, 0, 0, 0, 0, 0),
  (.aload_n 0, 1, 0, 0, 0, 0, 0),
  (.getfield 37, 3, 7, 8, 4, 0, 68),
  (.iload_n 1, 1, 1, 0, 0, 0, 0),
  (.iconst 1, 1, 0, 1, 0, 0, 0),
  (.iadd, 1, 0, 0, 0, 0, 0),
  (.iaload, 1, 0, 0, 0, 0, 0),
  (.if_icmp .le 9, 3, 34, 0, 0, 0, 0),
  (.iinc 1 (-1), 3, 1, -1, 0, 0, 0),
  (.goto (-24), 3, 7, 0, 0, 0, 0)]
def kX7_nextOrder_34 : List JI := [(.iload_n 1, 1, 1, 0, 0, 0, 0),
  (.ifCond .ge 4, 3, 39, 0, 0, 0, 0),
  (.return_, 1, 0, 0, 0, 0, 0)]
def kX7_nextOrder_39 : List JI := [(.aload_n 0, 1, 0, 0, 0, 0, 0),
  (.getfield 108, 3, 7, 2, 1, 0, 378),
  (.iconst 1, 1, 0, 1, 0, 0, 0),
  (.isub, 1, 0, 0, 0, 0, 0),
  (.istore_n 2, 1, 2, 0, 0, 0, 0)]
def kX7_nextOrder_46 : List JI := [(.iload_n 2, 1, 2, 0, 0, 0, 0),
  (.iload_n 1, 1, 1, 0, 0, 0, 0),
  (.iconst 1, 1, 0, 1, 0, 0, 0),
  (.iadd, 1, 0, 0, 0, 0, 0),
  (.if_icmp .le 24, 3, 74, 0, 0, 0, 0),
  (.aload_n 0, 1, 0, 0, 0, 0, 0),
  (.getfield 37, 3, 7, 8, 4, 0, 68),
  (.iload_n 2, 1, 2, 0, 0, 0, 0),
  (.iaload, 1, 0, 0, 0, 0, 0),
  (.aload_n 0, 1, 0, 0, 0, 0, 0),
  (.getfield 37, 3, 7, 8, 4, 0, 68),
  (.iload_n 1, 1, 1, 0, 0, 0, 0),
  (.iaload, 1, 0, 0, 0, 0, 0),
  (.if_icmp .ge 9, 3, 74, 0, 0, 0, 0),
  (.iinc 2 (-1), 3, 2, -1, 0, 0, 0),
  (.goto (-25), 3, 46, 0, 0, 0, 0)]
def kX7_nextOrder_74 : List JI := [(.aload_n 0, 1, 0, 0, 0, 0, 0),
  (.iload_n 1, 1, 1, 0, 0, 0, 0),
  (.iload_n 2, 1, 2, 0, 0, 0, 0),
  (.invokevirtual 138, 3, 159, 2, 0, 7, 383),
  (.aload_n 0, 1, 0, 0, 0, 0, 0),
  (.getfield 108, 3, 7, 2, 1, 0, 378),
  (.iconst 1, 1, 0, 1, 0, 0, 0),
  (.isub, 1, 0, 0, 0, 0, 0),
  (.istore_n 3, 1, 3, 0, 0, 0, 0),
  (.iload_n 1, 1, 1, 0, 0, 0, 0),
  (.iconst 1, 1, 0, 1, 0, 0, 0),
  (.iadd, 1, 0, 0, 0, 0, 0),
  (.istore 4, 2, 4, 0, 0, 0, 0)]
def kX7_nextOrder_92 : List JI := [(.iload 4, 2, 4, 0, 0, 0, 0),
  (.iload_n 3, 1, 3, 0, 0, 0, 0),
  (.if_icmp .ge 19, 3, 114, 0, 0, 0, 0),
  (.aload_n 0, 1, 0, 0, 0, 0, 0),
  (.iload 4, 2, 4, 0, 0, 0, 0),
  (.iload_n 3, 1, 3, 0, 0, 0, 0),
  (.invokevirtual 138, 3, 159, 2, 0, 7, 383),
  (.iinc 3 (-1), 3, 3, -1, 0, 0, 0),
  (.iinc 4 1, 3, 4, 1, 0, 0, 0),
  (.goto (-19), 3, 92, 0, 0, 0, 0)]
def kX7_nextOrder_114 : List JI := [(.return_, 1, 0, 0, 0, 0, 0)]
theorem qq_X7_nextOrder : (((jchk 160 0 kX7_nextOrder_0 && jchk 160 7 kX7_nextOrder_7) && (jchk 160 34 kX7_nextOrder_34 && jchk 160 39 kX7_nextOrder_39)) && ((jchk 160 46 kX7_nextOrder_46 && jchk 160 74 kX7_nextOrder_74) && (jchk 160 92 kX7_nextOrder_92 && jchk 160 114 kX7_nextOrder_114))) = true := by decide +kernel
theorem qX7_nextOrder_0 : jchk 160 0 kX7_nextOrder_0 = true := jb1 (jb1 (jb1 (qq_X7_nextOrder)))
theorem qX7_nextOrder_7 : jchk 160 7 kX7_nextOrder_7 = true := jb2 (jb1 (jb1 (qq_X7_nextOrder)))
theorem qX7_nextOrder_34 : jchk 160 34 kX7_nextOrder_34 = true := jb1 (jb2 (jb1 (qq_X7_nextOrder)))
theorem qX7_nextOrder_39 : jchk 160 39 kX7_nextOrder_39 = true := jb2 (jb2 (jb1 (qq_X7_nextOrder)))
theorem qX7_nextOrder_46 : jchk 160 46 kX7_nextOrder_46 = true := jb1 (jb1 (jb2 (qq_X7_nextOrder)))
theorem qX7_nextOrder_74 : jchk 160 74 kX7_nextOrder_74 = true := jb2 (jb1 (jb2 (qq_X7_nextOrder)))
theorem qX7_nextOrder_92 : jchk 160 92 kX7_nextOrder_92 = true := jb1 (jb2 (jb2 (qq_X7_nextOrder)))
theorem qX7_nextOrder_114 : jchk 160 114 kX7_nextOrder_114 = true := jb2 (jb2 (jb2 (qq_X7_nextOrder)))
def kX7_findLeast_0 : List JI := [(.aload_n 0, 1, 0, 0, 0, 0, 0),
  (.getfield 47, 3, 7, 11, 3, 0, 156),
  (.ifCond .eq 4, 3, 8, 0, 0, 0, 0),
  (.return_, 1, 0, 0, 0, 0, 0)]
def kX7_findLeast_8 : List JI := [(.aload_n 0, 1, 0, 0, 0, 0, 0),
  (.aload_n 1, 1, 1, 0, 0, 0, 0),
  (.invokevirtual 97, 3, 157, 1, 0, 7, 384),
  (.aload_n 0, 1, 0, 0, 0, 0, 0),
  (.ldc 101, 2, 0, 1000000, 0, 0, 385),
  (.putfield 102, 3, 7, 0, 1, 0, 386),
  (.iconst 0, 1, 0, 0, 0, 0, 0),
  (.istore_n 3, 1, 3, 0, 0, 0, 0)]
def kX7_findLeast_21 : List JI := [(.iload_n 3, 1, 3, 0, 0, 0, 0),
  (.getstatic 105, 3, 0, -7, 0, 0, 387),
  (.aload_n 0, 1, 0, 0, 0, 0, 0),
  (.getfield 108, 3, 7, 2, 1, 0, 378),
  (.iaload, 1, 0, 0, 0, 0, 0),
  (.if_icmp .ge 72, 3, 102, 0, 0, 0, 0),
  (.aload_n 0, 1, 0, 0, 0, 0, 0),
  (.getfield 102, 3, 7, 0, 1, 0, 386),
  (.ifCond .le 65, 3, 102, 0, 0, 0, 0),
  (.aload_n 0, 1, 0, 0, 0, 0, 0),
  (.aload_n 1, 1, 1, 0, 0, 0, 0),
  (.aload_n 0, 1, 0, 0, 0, 0, 0),
  (.getfield 37, 3, 7, 8, 4, 0, 68),
  (.aload_n 0, 1, 0, 0, 0, 0, 0),
  (.getfield 108, 3, 7, 2, 1, 0, 378),
  (.aload_n 2, 1, 2, 0, 0, 0, 0),
  (.invokevirtual 84, 3, 144, 4, 0, 7, 365),
  (.aload_n 0, 1, 0, 0, 0, 0, 0),
  (.invokevirtual 111, 3, 158, 0, 0, 7, 388),
  (.istore 4, 2, 4, 0, 0, 0, 0),
  (.iload 4, 2, 4, 0, 0, 0, 0),
  (.aload_n 0, 1, 0, 0, 0, 0, 0),
  (.getfield 102, 3, 7, 0, 1, 0, 386),
  (.if_icmp .ge 26, 3, 92, 0, 0, 0, 0),
  (.aload_n 0, 1, 0, 0, 0, 0, 0),
  (.iload 4, 2, 4, 0, 0, 0, 0),
  (.putfield 102, 3, 7, 0, 1, 0, 386),
  (.aload_n 0, 1, 0, 0, 0, 0, 0),
  (.getfield 37, 3, 7, 8, 4, 0, 68),
  (.iconst 0, 1, 0, 0, 0, 0, 0),
  (.aload_n 0, 1, 0, 0, 0, 0, 0),
  (.getfield 9, 3, 7, 1, 4, 0, 59),
  (.iconst 0, 1, 0, 0, 0, 0, 0),
  (.aload_n 0, 1, 0, 0, 0, 0, 0),
  (.getfield 108, 3, 7, 2, 1, 0, 378),
  (.invokestatic 115, 3, 999, 0, 0, 0, 389)]
def kX7_findLeast_92 : List JI := [(.aload_n 0, 1, 0, 0, 0, 0, 0),
  (.invokevirtual 121, 3, 160, 0, 0, 7, 390),
  (.iinc 3 1, 3, 3, 1, 0, 0, 0),
  (.goto (-78), 3, 21, 0, 0, 0, 0)]
def kX7_findLeast_102 : List JI := [(.aload_n 0, 1, 0, 0, 0, 0, 0),
  (.iconst 1, 1, 0, 1, 0, 0, 0),
  (.putfield 47, 3, 7, 11, 3, 0, 156),
  (.return_, 1, 0, 0, 0, 0, 0)]
theorem qq_X7_findLeast : ((jchk 161 0 kX7_findLeast_0 && jchk 161 8 kX7_findLeast_8) && (jchk 161 21 kX7_findLeast_21 && (jchk 161 92 kX7_findLeast_92 && jchk 161 102 kX7_findLeast_102))) = true := by decide +kernel
theorem qX7_findLeast_0 : jchk 161 0 kX7_findLeast_0 = true := jb1 (jb1 (qq_X7_findLeast))
theorem qX7_findLeast_8 : jchk 161 8 kX7_findLeast_8 = true := jb2 (jb1 (qq_X7_findLeast))
theorem qX7_findLeast_21 : jchk 161 21 kX7_findLeast_21 = true := jb1 (jb2 (qq_X7_findLeast))
theorem qX7_findLeast_92 : jchk 161 92 kX7_findLeast_92 = true := jb1 (jb2 (jb2 (qq_X7_findLeast)))
theorem qX7_findLeast_102 : jchk 161 102 kX7_findLeast_102 = true := jb2 (jb2 (jb2 (qq_X7_findLeast)))
def kX11_findOrder_0 : List JI := [(.aload_n 0, 1, 0, 0, 0, 0, 0),
  (.getfield 37, 3, 11, 5, 4, 0, 82),
  (.iconst 0, 1, 0, 0, 0, 0, 0),
  (.invokevirtual 340, 3, 156, 1, 0, 10, 391),
  (.aload_n 0, 1, 0, 0, 0, 0, 0),
  (.getfield 37, 3, 11, 5, 4, 0, 82),
  (.iconst 1, 1, 0, 1, 0, 0, 0),
  (.invokevirtual 340, 3, 156, 1, 0, 10, 391),
  (.iadd, 1, 0, 0, 0, 0, 0),
  (.iconst 5, 1, 0, 5, 0, 0, 0),
  (.if_icmp .le 5, 3, 23, 0, 0, 0, 0),
  (.iconst 0, 1, 0, 0, 0, 0, 0),
  (.ireturn, 1, 0, 0, 1, 0, 0)]
def kX11_findOrder_23 : List JI := [(.aload_n 0, 1, 0, 0, 0, 0, 0),
  (.getfield 81, 3, 11, 11, 4, 0, 100),
  (.aload_n 0, 1, 0, 0, 0, 0, 0),
  (.getfield 147, 3, 11, 0, 1, 0, 182),
  (.aload_n 0, 1, 0, 0, 0, 0, 0),
  (.getfield 16, 3, 11, 2, 4, 0, 73),
  (.aload_n 0, 1, 0, 0, 0, 0, 0),
  (.getfield 23, 3, 11, 3, 4, 0, 76),
  (.invokevirtual 357, 3, 140, 3, 0, 7, 367),
  (.aload_n 0, 1, 0, 0, 0, 0, 0),
  (.getfield 81, 3, 11, 11, 4, 0, 100),
  (.aload_n 0, 1, 0, 0, 0, 0, 0),
  (.getfield 37, 3, 11, 5, 4, 0, 82),
  (.aload_n 0, 1, 0, 0, 0, 0, 0),
  (.getfield 30, 3, 11, 4, 4, 0, 79),
  (.invokevirtual 365, 3, 161, 2, 0, 7, 392),
  (.iconst 1, 1, 0, 1, 0, 0, 0),
  (.ireturn, 1, 0, 0, 1, 0, 0)]
theorem qq_X11_findOrder : (jchk 162 0 kX11_findOrder_0 && jchk 162 23 kX11_findOrder_23) = true := by decide +kernel
theorem qX11_findOrder_0 : jchk 162 0 kX11_findOrder_0 = true := jb1 (qq_X11_findOrder)
theorem qX11_findOrder_23 : jchk 162 23 kX11_findOrder_23 = true := jb2 (qq_X11_findOrder)
def kX11_least_0 : List JI := [(.aload_n 0, 1, 0, 0, 0, 0, 0),
  (.invokevirtual 317, 3, 162, 0, 0, 11, 393),
  (.ifCond .ne 10, 3, 14, 0, 0, 0, 0),
  (.aload_n 0, 1, 0, 0, 0, 0, 0),
  (.bipush (-3), 2, 0, -3, 0, 0, 0),
  (.invokevirtual 93, 3, 16, 1, 0, 11, 159),
  (.ireturn, 1, 0, 0, 0, 0, 0)]
def kX11_least_14 : List JI := [(.aload_n 0, 1, 0, 0, 0, 0, 0),
  (.getfield 81, 3, 11, 11, 4, 0, 100),
  (.getfield 320, 3, 7, 0, 1, 0, 394),
  (.ireturn, 1, 0, 0, 0, 0, 0)]
theorem qq_X11_least : (jchk 163 0 kX11_least_0 && jchk 163 14 kX11_least_14) = true := by decide +kernel
theorem qX11_least_0 : jchk 163 0 kX11_least_0 = true := jb1 (qq_X11_least)
theorem qX11_least_14 : jchk 163 14 kX11_least_14 = true := jb2 (qq_X11_least)
def kX12_ask_0 : List JI := [(.aload_n 0, 1, 0, 0, 0, 0, 0),
  (.iconst 0, 1, 0, 0, 0, 0, 0),
  (.putfield 287, 3, 12, 62, 1, 0, 395),
  (.iconst 0, 1, 0, 0, 0, 0, 0),
  (.istore_n 1, 1, 1, 0, 0, 0, 0),
  (.iconst 0, 1, 0, 0, 0, 0, 0),
  (.istore_n 2, 1, 2, 0, 0, 0, 0)]
def kX12_ask_9 : List JI := [(.iload_n 2, 1, 2, 0, 0, 0, 0),
  (.aload_n 0, 1, 0, 0, 0, 0, 0),
  (.getfield 195, 3, 12, 14, 1, 0, 209),
  (.if_icmp .ge 34, 3, 48, 0, 0, 0, 0),
  (.aload_n 0, 1, 0, 0, 0, 0, 0),
  (.getfield 55, 3, 12, 18, 4, 0, 117),
  (.iload_n 2, 1, 2, 0, 0, 0, 0),
  (.iaload, 1, 0, 0, 0, 0, 0),
  (.iconst 1, 1, 0, 1, 0, 0, 0),
  (.if_icmp .gt 18, 3, 42, 0, 0, 0, 0),
  (.iload_n 1, 1, 1, 0, 0, 0, 0),
  (.iconst 5, 1, 0, 5, 0, 0, 0),
  (.if_icmp .ge 10, 3, 39, 0, 0, 0, 0),
  (.aload_n 0, 1, 0, 0, 0, 0, 0),
  (.getfield 158, 3, 12, 61, 4, 0, 151),
  (.iload_n 1, 1, 1, 0, 0, 0, 0),
  (.iload_n 2, 1, 2, 0, 0, 0, 0),
  (.iastore, 1, 0, 0, 0, 0, 0)]
def kX12_ask_39 : List JI := [(.iinc 1 1, 3, 1, 1, 0, 0, 0)]
def kX12_ask_42 : List JI := [(.iinc 2 1, 3, 2, 1, 0, 0, 0),
  (.goto (-36), 3, 9, 0, 0, 0, 0)]
def kX12_ask_48 : List JI := [(.aload_n 0, 1, 0, 0, 0, 0, 0),
  (.iload_n 1, 1, 1, 0, 0, 0, 0),
  (.putfield 287, 3, 12, 62, 1, 0, 395),
  (.iload_n 1, 1, 1, 0, 0, 0, 0),
  (.iconst 5, 1, 0, 5, 0, 0, 0),
  (.if_icmp .gt 7, 3, 62, 0, 0, 0, 0),
  (.iconst 1, 1, 0, 1, 0, 0, 0),
  (.goto 4, 3, 63, 0, 0, 0, 0)]
def kX12_ask_62 : List JI := [(.iconst 0, 1, 0, 0, 0, 0, 0)]
def kX12_ask_63 : List JI := [(.ireturn, 1, 0, 0, 1, 0, 0)]
theorem qq_X12_ask : ((jchk 164 0 kX12_ask_0 && (jchk 164 9 kX12_ask_9 && jchk 164 39 kX12_ask_39)) && ((jchk 164 42 kX12_ask_42 && jchk 164 48 kX12_ask_48) && (jchk 164 62 kX12_ask_62 && jchk 164 63 kX12_ask_63))) = true := by decide +kernel
theorem qX12_ask_0 : jchk 164 0 kX12_ask_0 = true := jb1 (jb1 (qq_X12_ask))
theorem qX12_ask_9 : jchk 164 9 kX12_ask_9 = true := jb1 (jb2 (jb1 (qq_X12_ask)))
theorem qX12_ask_39 : jchk 164 39 kX12_ask_39 = true := jb2 (jb2 (jb1 (qq_X12_ask)))
theorem qX12_ask_42 : jchk 164 42 kX12_ask_42 = true := jb1 (jb1 (jb2 (qq_X12_ask)))
theorem qX12_ask_48 : jchk 164 48 kX12_ask_48 = true := jb2 (jb1 (jb2 (qq_X12_ask)))
theorem qX12_ask_62 : jchk 164 62 kX12_ask_62 = true := jb1 (jb2 (jb2 (qq_X12_ask)))
theorem qX12_ask_63 : jchk 164 63 kX12_ask_63 = true := jb2 (jb2 (jb2 (qq_X12_ask)))
def kX12_findOrder_0 : List JI := [(.iload_n 1, 1, 1, 0, 0, 0, 0),
  (.istore_n 2, 1, 2, 0, 0, 0, 0),
  (.iconst 0, 1, 0, 0, 0, 0, 0),
  (.istore_n 3, 1, 3, 0, 0, 0, 0),
  (.iconst 1, 1, 0, 1, 0, 0, 0),
  (.istore 4, 2, 4, 0, 0, 0, 0),
  (.iconst 2, 1, 0, 2, 0, 0, 0),
  (.istore 5, 2, 5, 0, 0, 0, 0)]
def kX12_findOrder_10 : List JI := [(.iload 5, 2, 5, 0, 0, 0, 0),
  (.aload_n 0, 1, 0, 0, 0, 0, 0),
  (.getfield 287, 3, 12, 62, 1, 0, 395),
  (.if_icmp .gt 16, 3, 32, 0, 0, 0, 0),
  (.iload 4, 2, 4, 0, 0, 0, 0),
  (.iload 5, 2, 5, 0, 0, 0, 0),
  (.imul, 1, 0, 0, 0, 0, 0),
  (.istore 4, 2, 4, 0, 0, 0, 0),
  (.iinc 5 1, 3, 5, 1, 0, 0, 0),
  (.goto (-19), 3, 10, 0, 0, 0, 0)]
def kX12_findOrder_32 : List JI := [(.iconst 0, 1, 0, 0, 0, 0, 0),
  (.istore 5, 2, 5, 0, 0, 0, 0)]
def kX12_findOrder_35 : List JI := [(.iload 5, 2, 5, 0, 0, 0, 0),
  (.aload_n 0, 1, 0, 0, 0, 0, 0),
  (.getfield 287, 3, 12, 62, 1, 0, 395),
  (.if_icmp .ge 97, 3, 138, 0, 0, 0, 0),
  (.iload 4, 2, 4, 0, 0, 0, 0),
  (.aload_n 0, 1, 0, 0, 0, 0, 0),
  (.getfield 287, 3, 12, 62, 1, 0, 395),
  (.iload 5, 2, 5, 0, 0, 0, 0),
  (.isub, 1, 0, 0, 0, 0, 0),
  (.idiv, 1, 0, 0, 0, 0, 0),
  (.istore 4, 2, 4, 0, 0, 0, 0),
  (.iload_n 2, 1, 2, 0, 0, 0, 0),
  (.iload 4, 2, 4, 0, 0, 0, 0),
  (.idiv, 1, 0, 0, 0, 0, 0),
  (.istore 6, 2, 6, 0, 0, 0, 0),
  (.iload_n 2, 1, 2, 0, 0, 0, 0),
  (.iload 4, 2, 4, 0, 0, 0, 0),
  (.irem, 1, 0, 0, 0, 0, 0),
  (.istore_n 2, 1, 2, 0, 0, 0, 0),
  (.iconst 0, 1, 0, 0, 0, 0, 0),
  (.istore 7, 2, 7, 0, 0, 0, 0)]
def kX12_findOrder_70 : List JI := [(.iload_n 3, 1, 3, 0, 0, 0, 0),
  (.iload 7, 2, 7, 0, 0, 0, 0),
  (.ishr, 1, 0, 0, 0, 0, 0),
  (.iconst 1, 1, 0, 1, 0, 0, 0),
  (.iand, 1, 0, 0, 0, 0, 0),
  (.iconst 1, 1, 0, 1, 0, 0, 0),
  (.if_icmp .eq 8, 3, 85, 0, 0, 0, 0),
  (.iload 6, 2, 6, 0, 0, 0, 0),
  (.ifCond .le 29, 3, 111, 0, 0, 0, 0)]
def kX12_findOrder_85 : List JI := [(.iload 6, 2, 6, 0, 0, 0, 0),
  (.iload_n 3, 1, 3, 0, 0, 0, 0),
  (.iload 7, 2, 7, 0, 0, 0, 0),
  (.ishr, 1, 0, 0, 0, 0, 0),
  (.iconst 1, 1, 0, 1, 0, 0, 0),
  (.iand, 1, 0, 0, 0, 0, 0),
  (.iconst 1, 1, 0, 1, 0, 0, 0),
  (.if_icmp .ne 7, 3, 101, 0, 0, 0, 0),
  (.iconst 0, 1, 0, 0, 0, 0, 0),
  (.goto 4, 3, 102, 0, 0, 0, 0)]
def kX12_findOrder_101 : List JI := [(.iconst 1, 1, 0, 1, 0, 0, 0)]
def kX12_findOrder_102 : List JI := [(.isub, 1, 0, 0, 0, 0, 0),
  (.istore 6, 2, 6, 0, 0, 0, 0),
  (.iinc 7 1, 3, 7, 1, 0, 0, 0),
  (.goto (-38), 3, 70, 0, 0, 0, 0)]
def kX12_findOrder_111 : List JI := [(.iload_n 3, 1, 3, 0, 0, 0, 0),
  (.iconst 1, 1, 0, 1, 0, 0, 0),
  (.iload 7, 2, 7, 0, 0, 0, 0),
  (.ishl, 1, 0, 0, 0, 0, 0),
  (.ior, 1, 0, 0, 0, 0, 0),
  (.istore_n 3, 1, 3, 0, 0, 0, 0),
  (.aload_n 0, 1, 0, 0, 0, 0, 0),
  (.getfield 161, 3, 12, 63, 4, 0, 152),
  (.iload 5, 2, 5, 0, 0, 0, 0),
  (.aload_n 0, 1, 0, 0, 0, 0, 0),
  (.getfield 158, 3, 12, 61, 4, 0, 151),
  (.iload 7, 2, 7, 0, 0, 0, 0),
  (.iaload, 1, 0, 0, 0, 0, 0),
  (.iastore, 1, 0, 0, 0, 0, 0),
  (.iinc 5 1, 3, 5, 1, 0, 0, 0),
  (.goto (-100), 3, 35, 0, 0, 0, 0)]
def kX12_findOrder_138 : List JI := [(.return_, 1, 0, 0, 0, 0, 0)]
theorem qq_X12_findOrder : (((jchk 165 0 kX12_findOrder_0 && jchk 165 10 kX12_findOrder_10) && (jchk 165 32 kX12_findOrder_32 && (jchk 165 35 kX12_findOrder_35 && jchk 165 70 kX12_findOrder_70))) && ((jchk 165 85 kX12_findOrder_85 && jchk 165 101 kX12_findOrder_101) && (jchk 165 102 kX12_findOrder_102 && (jchk 165 111 kX12_findOrder_111 && jchk 165 138 kX12_findOrder_138)))) = true := by decide +kernel
theorem qX12_findOrder_0 : jchk 165 0 kX12_findOrder_0 = true := jb1 (jb1 (jb1 (qq_X12_findOrder)))
theorem qX12_findOrder_10 : jchk 165 10 kX12_findOrder_10 = true := jb2 (jb1 (jb1 (qq_X12_findOrder)))
theorem qX12_findOrder_32 : jchk 165 32 kX12_findOrder_32 = true := jb1 (jb2 (jb1 (qq_X12_findOrder)))
theorem qX12_findOrder_35 : jchk 165 35 kX12_findOrder_35 = true := jb1 (jb2 (jb2 (jb1 (qq_X12_findOrder))))
theorem qX12_findOrder_70 : jchk 165 70 kX12_findOrder_70 = true := jb2 (jb2 (jb2 (jb1 (qq_X12_findOrder))))
theorem qX12_findOrder_85 : jchk 165 85 kX12_findOrder_85 = true := jb1 (jb1 (jb2 (qq_X12_findOrder)))
theorem qX12_findOrder_101 : jchk 165 101 kX12_findOrder_101 = true := jb2 (jb1 (jb2 (qq_X12_findOrder)))
theorem qX12_findOrder_102 : jchk 165 102 kX12_findOrder_102 = true := jb1 (jb2 (jb2 (qq_X12_findOrder)))
theorem qX12_findOrder_111 : jchk 165 111 kX12_findOrder_111 = true := jb1 (jb2 (jb2 (jb2 (qq_X12_findOrder))))
theorem qX12_findOrder_138 : jchk 165 138 kX12_findOrder_138 = true := jb2 (jb2 (jb2 (jb2 (qq_X12_findOrder))))
def kX12_findLeast_0 : List JI := [(.iconst 1, 1, 0, 1, 0, 0, 0),
  (.istore_n 1, 1, 1, 0, 0, 0, 0),
  (.iconst 2, 1, 0, 2, 0, 0, 0),
  (.istore_n 2, 1, 2, 0, 0, 0, 0)]
def kX12_findLeast_4 : List JI := [(.iload_n 2, 1, 2, 0, 0, 0, 0),
  (.aload_n 0, 1, 0, 0, 0, 0, 0),
  (.getfield 287, 3, 12, 62, 1, 0, 395),
  (.if_icmp .gt 13, 3, 22, 0, 0, 0, 0),
  (.iload_n 1, 1, 1, 0, 0, 0, 0),
  (.iload_n 2, 1, 2, 0, 0, 0, 0),
  (.imul, 1, 0, 0, 0, 0, 0),
  (.istore_n 1, 1, 1, 0, 0, 0, 0),
  (.iinc 2 1, 3, 2, 1, 0, 0, 0),
  (.goto (-15), 3, 4, 0, 0, 0, 0)]
def kX12_findLeast_22 : List JI := [(.iconst (-1), 1, 0, -1, 0, 0, 0),
  (.istore_n 2, 1, 2, 0, 0, 0, 0),
  (.iconst 0, 1, 0, 0, 0, 0, 0),
  (.istore_n 3, 1, 3, 0, 0, 0, 0)]
def kX12_findLeast_26 : List JI := [(.iload_n 3, 1, 3, 0, 0, 0, 0),
  (.iload_n 1, 1, 1, 0, 0, 0, 0),
  (.if_icmp .ge 169, 3, 197, 0, 0, 0, 0),
  (.aload_n 0, 1, 0, 0, 0, 0, 0),
  (.iload_n 3, 1, 3, 0, 0, 0, 0),
  (.invokevirtual 290, 3, 165, 1, 0, 12, 396),
  (.aload_n 0, 1, 0, 0, 0, 0, 0),
  (.iconst 0, 1, 0, 0, 0, 0, 0),
  (.invokevirtual 277, 3, 149, 1, 0, 12, 372),
  (.aload_n 0, 1, 0, 0, 0, 0, 0),
  (.getfield 184, 3, 12, 0, 1, 0, 187),
  (.istore 4, 2, 4, 0, 0, 0, 0),
  (.iconst 0, 1, 0, 0, 0, 0, 0),
  (.istore 5, 2, 5, 0, 0, 0, 0)]
def kX12_findLeast_50 : List JI := [(.iload 5, 2, 5, 0, 0, 0, 0),
  (.aload_n 0, 1, 0, 0, 0, 0, 0),
  (.getfield 287, 3, 12, 62, 1, 0, 395),
  (.if_icmp .ge 26, 3, 82, 0, 0, 0, 0),
  (.aload_n 0, 1, 0, 0, 0, 0, 0),
  (.getfield 49, 3, 12, 16, 4, 0, 115),
  (.aload_n 0, 1, 0, 0, 0, 0, 0),
  (.getfield 161, 3, 12, 63, 4, 0, 152),
  (.iload 5, 2, 5, 0, 0, 0, 0),
  (.iaload, 1, 0, 0, 0, 0, 0),
  (.bipush 99, 2, 0, 99, 0, 0, 0),
  (.iload 5, 2, 5, 0, 0, 0, 0),
  (.isub, 1, 0, 0, 0, 0, 0),
  (.iastore, 1, 0, 0, 0, 0, 0),
  (.iinc 5 1, 3, 5, 1, 0, 0, 0),
  (.goto (-29), 3, 50, 0, 0, 0, 0)]
def kX12_findLeast_82 : List JI := [(.aload_n 0, 1, 0, 0, 0, 0, 0),
  (.invokevirtual 281, 3, 150, 0, 0, 12, 373),
  (.iconst 0, 1, 0, 0, 0, 0, 0),
  (.istore 5, 2, 5, 0, 0, 0, 0),
  (.iconst 0, 1, 0, 0, 0, 0, 0),
  (.istore 6, 2, 6, 0, 0, 0, 0)]
def kX12_findLeast_92 : List JI := [(.iload 6, 2, 6, 0, 0, 0, 0),
  (.aload_n 0, 1, 0, 0, 0, 0, 0),
  (.getfield 287, 3, 12, 62, 1, 0, 395),
  (.if_icmp .ge 43, 3, 141, 0, 0, 0, 0),
  (.iload 5, 2, 5, 0, 0, 0, 0),
  (.aload_n 0, 1, 0, 0, 0, 0, 0),
  (.getfield 74, 3, 12, 24, 4, 0, 123),
  (.aload_n 0, 1, 0, 0, 0, 0, 0),
  (.getfield 161, 3, 12, 63, 4, 0, 152),
  (.iload 6, 2, 6, 0, 0, 0, 0),
  (.iaload, 1, 0, 0, 0, 0, 0),
  (.iaload, 1, 0, 0, 0, 0, 0),
  (.iload 4, 2, 4, 0, 0, 0, 0),
  (.aload_n 0, 1, 0, 0, 0, 0, 0),
  (.getfield 52, 3, 12, 17, 4, 0, 116),
  (.aload_n 0, 1, 0, 0, 0, 0, 0),
  (.getfield 161, 3, 12, 63, 4, 0, 152),
  (.iload 6, 2, 6, 0, 0, 0, 0),
  (.iaload, 1, 0, 0, 0, 0, 0),
  (.iaload, 1, 0, 0, 0, 0, 0),
  (.invokestatic 284, 3, 154, 3, 0, 12, 377),
  (.iadd, 1, 0, 0, 0, 0, 0),
  (.istore 5, 2, 5, 0, 0, 0, 0),
  (.iinc 6 1, 3, 6, 1, 0, 0, 0),
  (.goto (-46), 3, 92, 0, 0, 0, 0)]
def kX12_findLeast_141 : List JI := [(.aload_n 0, 1, 0, 0, 0, 0, 0),
  (.iconst 1, 1, 0, 1, 0, 0, 0),
  (.invokevirtual 277, 3, 149, 1, 0, 12, 372),
  (.iload_n 2, 1, 2, 0, 0, 0, 0),
  (.ifCond .lt 9, 3, 156, 0, 0, 0, 0),
  (.iload 5, 2, 5, 0, 0, 0, 0),
  (.iload_n 2, 1, 2, 0, 0, 0, 0),
  (.if_icmp .ge 38, 3, 191, 0, 0, 0, 0)]
def kX12_findLeast_156 : List JI := [(.iload 5, 2, 5, 0, 0, 0, 0),
  (.istore_n 2, 1, 2, 0, 0, 0, 0),
  (.iconst 0, 1, 0, 0, 0, 0, 0),
  (.istore 6, 2, 6, 0, 0, 0, 0)]
def kX12_findLeast_162 : List JI := [(.iload 6, 2, 6, 0, 0, 0, 0),
  (.aload_n 0, 1, 0, 0, 0, 0, 0),
  (.getfield 287, 3, 12, 62, 1, 0, 395),
  (.if_icmp .ge 23, 3, 191, 0, 0, 0, 0),
  (.aload_n 0, 1, 0, 0, 0, 0, 0),
  (.getfield 164, 3, 12, 64, 4, 0, 153),
  (.iload 6, 2, 6, 0, 0, 0, 0),
  (.aload_n 0, 1, 0, 0, 0, 0, 0),
  (.getfield 161, 3, 12, 63, 4, 0, 152),
  (.iload 6, 2, 6, 0, 0, 0, 0),
  (.iaload, 1, 0, 0, 0, 0, 0),
  (.iastore, 1, 0, 0, 0, 0, 0),
  (.iinc 6 1, 3, 6, 1, 0, 0, 0),
  (.goto (-26), 3, 162, 0, 0, 0, 0)]
def kX12_findLeast_191 : List JI := [(.iinc 3 1, 3, 3, 1, 0, 0, 0),
  (.goto (-168), 3, 26, 0, 0, 0, 0)]
def kX12_findLeast_197 : List JI := [(.iload_n 2, 1, 2, 0, 0, 0, 0),
  (.ireturn, 1, 0, 0, 0, 0, 0)]
theorem qq_X12_findLeast : (((jchk 166 0 kX12_findLeast_0 && (jchk 166 4 kX12_findLeast_4 && jchk 166 22 kX12_findLeast_22)) && (jchk 166 26 kX12_findLeast_26 && (jchk 166 50 kX12_findLeast_50 && jchk 166 82 kX12_findLeast_82))) && ((jchk 166 92 kX12_findLeast_92 && (jchk 166 141 kX12_findLeast_141 && jchk 166 156 kX12_findLeast_156)) && (jchk 166 162 kX12_findLeast_162 && (jchk 166 191 kX12_findLeast_191 && jchk 166 197 kX12_findLeast_197)))) = true := by decide +kernel
theorem qX12_findLeast_0 : jchk 166 0 kX12_findLeast_0 = true := jb1 (jb1 (jb1 (qq_X12_findLeast)))
theorem qX12_findLeast_4 : jchk 166 4 kX12_findLeast_4 = true := jb1 (jb2 (jb1 (jb1 (qq_X12_findLeast))))
theorem qX12_findLeast_22 : jchk 166 22 kX12_findLeast_22 = true := jb2 (jb2 (jb1 (jb1 (qq_X12_findLeast))))
theorem qX12_findLeast_26 : jchk 166 26 kX12_findLeast_26 = true := jb1 (jb2 (jb1 (qq_X12_findLeast)))
theorem qX12_findLeast_50 : jchk 166 50 kX12_findLeast_50 = true := jb1 (jb2 (jb2 (jb1 (qq_X12_findLeast))))
theorem qX12_findLeast_82 : jchk 166 82 kX12_findLeast_82 = true := jb2 (jb2 (jb2 (jb1 (qq_X12_findLeast))))
theorem qX12_findLeast_92 : jchk 166 92 kX12_findLeast_92 = true := jb1 (jb1 (jb2 (qq_X12_findLeast)))
theorem qX12_findLeast_141 : jchk 166 141 kX12_findLeast_141 = true := jb1 (jb2 (jb1 (jb2 (qq_X12_findLeast))))
theorem qX12_findLeast_156 : jchk 166 156 kX12_findLeast_156 = true := jb2 (jb2 (jb1 (jb2 (qq_X12_findLeast))))
theorem qX12_findLeast_162 : jchk 166 162 kX12_findLeast_162 = true := jb1 (jb2 (jb2 (qq_X12_findLeast)))
theorem qX12_findLeast_191 : jchk 166 191 kX12_findLeast_191 = true := jb1 (jb2 (jb2 (jb2 (qq_X12_findLeast))))
theorem qX12_findLeast_197 : jchk 166 197 kX12_findLeast_197 = true := jb2 (jb2 (jb2 (jb2 (qq_X12_findLeast))))
def kX12_least_0 : List JI := [(.aload_n 0, 1, 0, 0, 0, 0, 0),
  (.invokevirtual 293, 3, 164, 0, 0, 12, 397),
  (.ifCond .eq 10, 3, 14, 0, 0, 0, 0),
  (.aload_n 0, 1, 0, 0, 0, 0, 0),
  (.invokevirtual 297, 3, 166, 0, 0, 12, 398),
  (.goto 9, 3, 20, 0, 0, 0, 0)]
def kX12_least_14 : List JI := [(.aload_n 0, 1, 0, 0, 0, 0, 0),
  (.bipush (-3), 2, 0, -3, 0, 0, 0),
  (.invokevirtual 172, 3, 20, 1, 0, 12, 163)]
def kX12_least_20 : List JI := [(.ireturn, 1, 0, 0, 0, 0, 0)]
theorem qq_X12_least : (jchk 167 0 kX12_least_0 && (jchk 167 14 kX12_least_14 && jchk 167 20 kX12_least_20)) = true := by decide +kernel
theorem qX12_least_0 : jchk 167 0 kX12_least_0 = true := jb1 (qq_X12_least)
theorem qX12_least_14 : jchk 167 14 kX12_least_14 = true := jb1 (jb2 (qq_X12_least))
theorem qX12_least_20 : jchk 167 20 kX12_least_20 = true := jb2 (jb2 (qq_X12_least))
def kX11_order_0 : List JI := [(.aload_n 0, 1, 0, 0, 0, 0, 0),
  (.invokevirtual 317, 3, 162, 0, 0, 11, 393),
  (.ifCond .ne 10, 3, 14, 0, 0, 0, 0),
  (.aload_n 0, 1, 0, 0, 0, 0, 0),
  (.bipush (-3), 2, 0, -3, 0, 0, 0),
  (.invokevirtual 93, 3, 16, 1, 0, 11, 159),
  (.ireturn, 1, 0, 0, 0, 0, 0)]
def kX11_order_14 : List JI := [(.iload_n 1, 1, 1, 0, 0, 0, 0),
  (.aload_n 0, 1, 0, 0, 0, 0, 0),
  (.getfield 81, 3, 11, 11, 4, 0, 100),
  (.getfield 323, 3, 7, 2, 1, 0, 399),
  (.invokestatic 85, 3, 14, 2, 0, 11, 157),
  (.ifCond .eq 15, 3, 40, 0, 0, 0, 0),
  (.aload_n 0, 1, 0, 0, 0, 0, 0),
  (.getfield 81, 3, 11, 11, 4, 0, 100),
  (.getfield 326, 3, 7, 1, 4, 0, 400),
  (.iload_n 1, 1, 1, 0, 0, 0, 0),
  (.iaload, 1, 0, 0, 0, 0, 0),
  (.goto 5, 3, 42, 0, 0, 0, 0)]
def kX11_order_40 : List JI := [(.bipush (-9), 2, 0, -9, 0, 0, 0)]
def kX11_order_42 : List JI := [(.ireturn, 1, 0, 0, 0, 0, 0)]
theorem qq_X11_order : ((jchk 168 0 kX11_order_0 && jchk 168 14 kX11_order_14) && (jchk 168 40 kX11_order_40 && jchk 168 42 kX11_order_42)) = true := by decide +kernel
theorem qX11_order_0 : jchk 168 0 kX11_order_0 = true := jb1 (jb1 (qq_X11_order))
theorem qX11_order_14 : jchk 168 14 kX11_order_14 = true := jb2 (jb1 (qq_X11_order))
theorem qX11_order_40 : jchk 168 40 kX11_order_40 = true := jb1 (jb2 (qq_X11_order))
theorem qX11_order_42 : jchk 168 42 kX11_order_42 = true := jb2 (jb2 (qq_X11_order))
def kX12_order_0 : List JI := [(.aload_n 0, 1, 0, 0, 0, 0, 0),
  (.invokevirtual 293, 3, 164, 0, 0, 12, 397),
  (.ifCond .ne 10, 3, 14, 0, 0, 0, 0),
  (.aload_n 0, 1, 0, 0, 0, 0, 0),
  (.bipush (-3), 2, 0, -3, 0, 0, 0),
  (.invokevirtual 172, 3, 20, 1, 0, 12, 163),
  (.ireturn, 1, 0, 0, 0, 0, 0)]
def kX12_order_14 : List JI := [(.iload_n 1, 1, 1, 0, 0, 0, 0),
  (.iconst 0, 1, 0, 0, 0, 0, 0),
  (.aload_n 0, 1, 0, 0, 0, 0, 0),
  (.getfield 287, 3, 12, 62, 1, 0, 395),
  (.iconst 1, 1, 0, 1, 0, 0, 0),
  (.isub, 1, 0, 0, 0, 0, 0),
  (.invokestatic 168, 3, 19, 3, 0, 12, 162),
  (.ifCond .ne 6, 3, 31, 0, 0, 0, 0),
  (.bipush (-9), 2, 0, -9, 0, 0, 0),
  (.ireturn, 1, 0, 0, 0, 0, 0)]
def kX12_order_31 : List JI := [(.aload_n 0, 1, 0, 0, 0, 0, 0),
  (.invokevirtual 297, 3, 166, 0, 0, 12, 398),
  (.istore_n 2, 1, 2, 0, 0, 0, 0),
  (.aload_n 0, 1, 0, 0, 0, 0, 0),
  (.getfield 164, 3, 12, 64, 4, 0, 153),
  (.iload_n 1, 1, 1, 0, 0, 0, 0),
  (.iaload, 1, 0, 0, 0, 0, 0),
  (.ireturn, 1, 0, 0, 0, 0, 0)]
theorem qq_X12_order : (jchk 169 0 kX12_order_0 && (jchk 169 14 kX12_order_14 && jchk 169 31 kX12_order_31)) = true := by decide +kernel
theorem qX12_order_0 : jchk 169 0 kX12_order_0 = true := jb1 (qq_X12_order)
theorem qX12_order_14 : jchk 169 14 kX12_order_14 = true := jb1 (jb2 (qq_X12_order))
theorem qX12_order_31 : jchk 169 31 kX12_order_31 = true := jb2 (jb2 (qq_X12_order))
def kX11_hullOf_0 : List JI := [(.aload_n 0, 1, 0, 0, 0, 0, 0),
  (.iload_n 1, 1, 1, 0, 0, 0, 0),
  (.invokevirtual 188, 3, 60, 1, 0, 11, 210),
  (.ifCond .ne 9, 3, 14, 0, 0, 0, 0),
  (.aload_n 0, 1, 0, 0, 0, 0, 0),
  (.iconst (-1), 1, 0, -1, 0, 0, 0),
  (.invokevirtual 93, 3, 16, 1, 0, 11, 159),
  (.ireturn, 1, 0, 0, 0, 0, 0)]
def kX11_hullOf_14 : List JI := [(.aload_n 0, 1, 0, 0, 0, 0, 0),
  (.getfield 37, 3, 11, 5, 4, 0, 82),
  (.getfield 191, 3, 10, 3, 4, 0, 211),
  (.iload_n 1, 1, 1, 0, 0, 0, 0),
  (.aaload, 1, 0, 0, 0, 0, 0),
  (.astore_n 3, 1, 3, 0, 0, 0, 0),
  (.iload_n 2, 1, 2, 0, 0, 0, 0),
  (.tableswitch 104 0 8 #[51, 56, 61, 66, 79, 84, 89, 94, 99], 51, 0, 0, 0, 0, 0)]
def kX11_hullOf_76 : List JI := [(.aload_n 3, 1, 3, 0, 0, 0, 0),
  (.getfield 227, 3, 4, 3, 1, 0, 275),
  (.ireturn, 1, 0, 0, 0, 0, 0)]
def kX11_hullOf_81 : List JI := [(.aload_n 3, 1, 3, 0, 0, 0, 0),
  (.getfield 329, 3, 4, 4, 1, 0, 401),
  (.ireturn, 1, 0, 0, 0, 0, 0)]
def kX11_hullOf_86 : List JI := [(.aload_n 3, 1, 3, 0, 0, 0, 0),
  (.getfield 332, 3, 4, 6, 1, 0, 402),
  (.ireturn, 1, 0, 0, 0, 0, 0)]
def kX11_hullOf_91 : List JI := [(.aload_n 3, 1, 3, 0, 0, 0, 0),
  (.getfield 334, 3, 4, 7, 3, 0, 403),
  (.ifCond .eq 7, 3, 102, 0, 0, 0, 0),
  (.iconst 1, 1, 0, 1, 0, 0, 0),
  (.goto 4, 3, 103, 0, 0, 0, 0)]
def kX11_hullOf_102 : List JI := [(.iconst 0, 1, 0, 0, 0, 0, 0)]
def kX11_hullOf_103 : List JI := [(.ireturn, 1, 0, 0, 0, 0, 0)]
def kX11_hullOf_104 : List JI := [(.aload_n 3, 1, 3, 0, 0, 0, 0),
  (.getfield 337, 3, 4, 8, 1, 0, 404),
  (.ireturn, 1, 0, 0, 0, 0, 0)]
def kX11_hullOf_109 : List JI := [(.aload_n 3, 1, 3, 0, 0, 0, 0),
  (.getfield 201, 3, 4, 1, 1, 0, 213),
  (.ireturn, 1, 0, 0, 0, 0, 0)]
def kX11_hullOf_114 : List JI := [(.aload_n 3, 1, 3, 0, 0, 0, 0),
  (.getfield 264, 3, 4, 0, 1, 0, 321),
  (.ireturn, 1, 0, 0, 0, 0, 0)]
def kX11_hullOf_119 : List JI := [(.aload_n 3, 1, 3, 0, 0, 0, 0),
  (.getfield 311, 3, 4, 2, 1, 0, 375),
  (.ireturn, 1, 0, 0, 0, 0, 0)]
def kX11_hullOf_124 : List JI := [(.aload_n 3, 1, 3, 0, 0, 0, 0),
  (.getfield 305, 3, 4, 9, 1, 0, 369),
  (.ireturn, 1, 0, 0, 0, 0, 0)]
def kX11_hullOf_129 : List JI := [(.aload_n 0, 1, 0, 0, 0, 0, 0),
  (.bipush (-2), 2, 0, -2, 0, 0, 0),
  (.invokevirtual 93, 3, 16, 1, 0, 11, 159),
  (.ireturn, 1, 0, 0, 0, 0, 0)]
theorem qq_X11_hullOf : (((jchk 170 0 kX11_hullOf_0 && (jchk 170 14 kX11_hullOf_14 && jchk 170 76 kX11_hullOf_76)) && ((jchk 170 81 kX11_hullOf_81 && jchk 170 86 kX11_hullOf_86) && (jchk 170 91 kX11_hullOf_91 && jchk 170 102 kX11_hullOf_102))) && ((jchk 170 103 kX11_hullOf_103 && (jchk 170 104 kX11_hullOf_104 && jchk 170 109 kX11_hullOf_109)) && ((jchk 170 114 kX11_hullOf_114 && jchk 170 119 kX11_hullOf_119) && (jchk 170 124 kX11_hullOf_124 && jchk 170 129 kX11_hullOf_129)))) = true := by decide +kernel
theorem qX11_hullOf_0 : jchk 170 0 kX11_hullOf_0 = true := jb1 (jb1 (jb1 (qq_X11_hullOf)))
theorem qX11_hullOf_14 : jchk 170 14 kX11_hullOf_14 = true := jb1 (jb2 (jb1 (jb1 (qq_X11_hullOf))))
theorem qX11_hullOf_76 : jchk 170 76 kX11_hullOf_76 = true := jb2 (jb2 (jb1 (jb1 (qq_X11_hullOf))))
theorem qX11_hullOf_81 : jchk 170 81 kX11_hullOf_81 = true := jb1 (jb1 (jb2 (jb1 (qq_X11_hullOf))))
theorem qX11_hullOf_86 : jchk 170 86 kX11_hullOf_86 = true := jb2 (jb1 (jb2 (jb1 (qq_X11_hullOf))))
theorem qX11_hullOf_91 : jchk 170 91 kX11_hullOf_91 = true := jb1 (jb2 (jb2 (jb1 (qq_X11_hullOf))))
theorem qX11_hullOf_102 : jchk 170 102 kX11_hullOf_102 = true := jb2 (jb2 (jb2 (jb1 (qq_X11_hullOf))))
theorem qX11_hullOf_103 : jchk 170 103 kX11_hullOf_103 = true := jb1 (jb1 (jb2 (qq_X11_hullOf)))
theorem qX11_hullOf_104 : jchk 170 104 kX11_hullOf_104 = true := jb1 (jb2 (jb1 (jb2 (qq_X11_hullOf))))
theorem qX11_hullOf_109 : jchk 170 109 kX11_hullOf_109 = true := jb2 (jb2 (jb1 (jb2 (qq_X11_hullOf))))
theorem qX11_hullOf_114 : jchk 170 114 kX11_hullOf_114 = true := jb1 (jb1 (jb2 (jb2 (qq_X11_hullOf))))
theorem qX11_hullOf_119 : jchk 170 119 kX11_hullOf_119 = true := jb2 (jb1 (jb2 (jb2 (qq_X11_hullOf))))
theorem qX11_hullOf_124 : jchk 170 124 kX11_hullOf_124 = true := jb1 (jb2 (jb2 (jb2 (qq_X11_hullOf))))
theorem qX11_hullOf_129 : jchk 170 129 kX11_hullOf_129 = true := jb2 (jb2 (jb2 (jb2 (qq_X11_hullOf))))
def kX12_hullOf_0 : List JI := [(.aload_n 0, 1, 0, 0, 0, 0, 0),
  (.iload_n 1, 1, 1, 0, 0, 0, 0),
  (.invokevirtual 198, 3, 63, 1, 0, 12, 214),
  (.ifCond .ne 9, 3, 14, 0, 0, 0, 0),
  (.aload_n 0, 1, 0, 0, 0, 0, 0),
  (.iconst (-1), 1, 0, -1, 0, 0, 0),
  (.invokevirtual 172, 3, 20, 1, 0, 12, 163),
  (.ireturn, 1, 0, 0, 0, 0, 0)]
def kX12_hullOf_14 : List JI := [(.iload_n 2, 1, 2, 0, 0, 0, 0),
  (.tableswitch 144 0 8 #[49, 56, 63, 84, 109, 116, 123, 130, 137], 49, 0, 0, 0, 0, 0)]
def kX12_hullOf_64 : List JI := [(.aload_n 0, 1, 0, 0, 0, 0, 0),
  (.getfield 55, 3, 12, 18, 4, 0, 117),
  (.iload_n 1, 1, 1, 0, 0, 0, 0),
  (.iaload, 1, 0, 0, 0, 0, 0),
  (.ireturn, 1, 0, 0, 0, 0, 0)]
def kX12_hullOf_71 : List JI := [(.aload_n 0, 1, 0, 0, 0, 0, 0),
  (.getfield 58, 3, 12, 19, 4, 0, 118),
  (.iload_n 1, 1, 1, 0, 0, 0, 0),
  (.iaload, 1, 0, 0, 0, 0, 0),
  (.ireturn, 1, 0, 0, 0, 0, 0)]
def kX12_hullOf_78 : List JI := [(.aload_n 0, 1, 0, 0, 0, 0, 0),
  (.getfield 55, 3, 12, 18, 4, 0, 117),
  (.iload_n 1, 1, 1, 0, 0, 0, 0),
  (.iaload, 1, 0, 0, 0, 0, 0),
  (.iconst 1, 1, 0, 1, 0, 0, 0),
  (.if_icmp .ne 12, 3, 97, 0, 0, 0, 0),
  (.aload_n 0, 1, 0, 0, 0, 0, 0),
  (.getfield 64, 3, 12, 21, 4, 0, 120),
  (.iload_n 1, 1, 1, 0, 0, 0, 0),
  (.iaload, 1, 0, 0, 0, 0, 0),
  (.goto 4, 3, 98, 0, 0, 0, 0)]
def kX12_hullOf_97 : List JI := [(.iconst 0, 1, 0, 0, 0, 0, 0)]
def kX12_hullOf_98 : List JI := [(.ireturn, 1, 0, 0, 0, 0, 0)]
def kX12_hullOf_99 : List JI := [(.aload_n 0, 1, 0, 0, 0, 0, 0),
  (.getfield 55, 3, 12, 18, 4, 0, 117),
  (.iload_n 1, 1, 1, 0, 0, 0, 0),
  (.iaload, 1, 0, 0, 0, 0, 0),
  (.iconst 1, 1, 0, 1, 0, 0, 0),
  (.if_icmp .ne 16, 3, 122, 0, 0, 0, 0),
  (.aload_n 0, 1, 0, 0, 0, 0, 0),
  (.getfield 67, 3, 12, 22, 4, 0, 121),
  (.iload_n 1, 1, 1, 0, 0, 0, 0),
  (.baload, 1, 0, 0, 0, 0, 0),
  (.ifCond .eq 7, 3, 122, 0, 0, 0, 0),
  (.iconst 1, 1, 0, 1, 0, 0, 0),
  (.goto 4, 3, 123, 0, 0, 0, 0)]
def kX12_hullOf_122 : List JI := [(.iconst 0, 1, 0, 0, 0, 0, 0)]
def kX12_hullOf_123 : List JI := [(.ireturn, 1, 0, 0, 0, 0, 0)]
def kX12_hullOf_124 : List JI := [(.aload_n 0, 1, 0, 0, 0, 0, 0),
  (.getfield 71, 3, 12, 23, 4, 0, 122),
  (.iload_n 1, 1, 1, 0, 0, 0, 0),
  (.iaload, 1, 0, 0, 0, 0, 0),
  (.ireturn, 1, 0, 0, 0, 0, 0)]
def kX12_hullOf_131 : List JI := [(.aload_n 0, 1, 0, 0, 0, 0, 0),
  (.getfield 49, 3, 12, 16, 4, 0, 115),
  (.iload_n 1, 1, 1, 0, 0, 0, 0),
  (.iaload, 1, 0, 0, 0, 0, 0),
  (.ireturn, 1, 0, 0, 0, 0, 0)]
def kX12_hullOf_138 : List JI := [(.aload_n 0, 1, 0, 0, 0, 0, 0),
  (.getfield 46, 3, 12, 15, 4, 0, 114),
  (.iload_n 1, 1, 1, 0, 0, 0, 0),
  (.iaload, 1, 0, 0, 0, 0, 0),
  (.ireturn, 1, 0, 0, 0, 0, 0)]
def kX12_hullOf_145 : List JI := [(.aload_n 0, 1, 0, 0, 0, 0, 0),
  (.getfield 52, 3, 12, 17, 4, 0, 116),
  (.iload_n 1, 1, 1, 0, 0, 0, 0),
  (.iaload, 1, 0, 0, 0, 0, 0),
  (.ireturn, 1, 0, 0, 0, 0, 0)]
def kX12_hullOf_152 : List JI := [(.aload_n 0, 1, 0, 0, 0, 0, 0),
  (.getfield 74, 3, 12, 24, 4, 0, 123),
  (.iload_n 1, 1, 1, 0, 0, 0, 0),
  (.iaload, 1, 0, 0, 0, 0, 0),
  (.ireturn, 1, 0, 0, 0, 0, 0)]
def kX12_hullOf_159 : List JI := [(.aload_n 0, 1, 0, 0, 0, 0, 0),
  (.bipush (-2), 2, 0, -2, 0, 0, 0),
  (.invokevirtual 172, 3, 20, 1, 0, 12, 163),
  (.ireturn, 1, 0, 0, 0, 0, 0)]
theorem qq_X12_hullOf : ((((jchk 171 0 kX12_hullOf_0 && jchk 171 14 kX12_hullOf_14) && (jchk 171 64 kX12_hullOf_64 && jchk 171 71 kX12_hullOf_71)) && ((jchk 171 78 kX12_hullOf_78 && jchk 171 97 kX12_hullOf_97) && (jchk 171 98 kX12_hullOf_98 && jchk 171 99 kX12_hullOf_99))) && (((jchk 171 122 kX12_hullOf_122 && jchk 171 123 kX12_hullOf_123) && (jchk 171 124 kX12_hullOf_124 && jchk 171 131 kX12_hullOf_131)) && ((jchk 171 138 kX12_hullOf_138 && jchk 171 145 kX12_hullOf_145) && (jchk 171 152 kX12_hullOf_152 && jchk 171 159 kX12_hullOf_159)))) = true := by decide +kernel
theorem qX12_hullOf_0 : jchk 171 0 kX12_hullOf_0 = true := jb1 (jb1 (jb1 (jb1 (qq_X12_hullOf))))
theorem qX12_hullOf_14 : jchk 171 14 kX12_hullOf_14 = true := jb2 (jb1 (jb1 (jb1 (qq_X12_hullOf))))
theorem qX12_hullOf_64 : jchk 171 64 kX12_hullOf_64 = true := jb1 (jb2 (jb1 (jb1 (qq_X12_hullOf))))
theorem qX12_hullOf_71 : jchk 171 71 kX12_hullOf_71 = true := jb2 (jb2 (jb1 (jb1 (qq_X12_hullOf))))
theorem qX12_hullOf_78 : jchk 171 78 kX12_hullOf_78 = true := jb1 (jb1 (jb2 (jb1 (qq_X12_hullOf))))
theorem qX12_hullOf_97 : jchk 171 97 kX12_hullOf_97 = true := jb2 (jb1 (jb2 (jb1 (qq_X12_hullOf))))
theorem qX12_hullOf_98 : jchk 171 98 kX12_hullOf_98 = true := jb1 (jb2 (jb2 (jb1 (qq_X12_hullOf))))
theorem qX12_hullOf_99 : jchk 171 99 kX12_hullOf_99 = true := jb2 (jb2 (jb2 (jb1 (qq_X12_hullOf))))
theorem qX12_hullOf_122 : jchk 171 122 kX12_hullOf_122 = true := jb1 (jb1 (jb1 (jb2 (qq_X12_hullOf))))
theorem qX12_hullOf_123 : jchk 171 123 kX12_hullOf_123 = true := jb2 (jb1 (jb1 (jb2 (qq_X12_hullOf))))
theorem qX12_hullOf_124 : jchk 171 124 kX12_hullOf_124 = true := jb1 (jb2 (jb1 (jb2 (qq_X12_hullOf))))
theorem qX12_hullOf_131 : jchk 171 131 kX12_hullOf_131 = true := jb2 (jb2 (jb1 (jb2 (qq_X12_hullOf))))
theorem qX12_hullOf_138 : jchk 171 138 kX12_hullOf_138 = true := jb1 (jb1 (jb2 (jb2 (qq_X12_hullOf))))
theorem qX12_hullOf_145 : jchk 171 145 kX12_hullOf_145 = true := jb2 (jb1 (jb2 (jb2 (qq_X12_hullOf))))
theorem qX12_hullOf_152 : jchk 171 152 kX12_hullOf_152 = true := jb1 (jb2 (jb2 (jb2 (qq_X12_hullOf))))
theorem qX12_hullOf_159 : jchk 171 159 kX12_hullOf_159 = true := jb2 (jb2 (jb2 (jb2 (qq_X12_hullOf))))
def kX11_basinOf_0 : List JI := [(.iload_n 1, 1, 1, 0, 0, 0, 0),
  (.bipush 6, 2, 0, 6, 0, 0, 0),
  (.invokestatic 85, 3, 14, 2, 0, 11, 157),
  (.ifCond .ne 9, 3, 15, 0, 0, 0, 0),
  (.aload_n 0, 1, 0, 0, 0, 0, 0),
  (.iconst (-1), 1, 0, -1, 0, 0, 0),
  (.invokevirtual 93, 3, 16, 1, 0, 11, 159),
  (.ireturn, 1, 0, 0, 0, 0, 0)]
def kX11_basinOf_15 : List JI := [(.aload_n 0, 1, 0, 0, 0, 0, 0),
  (.getfield 37, 3, 11, 5, 4, 0, 82),
  (.getfield 204, 3, 10, 1, 4, 0, 215),
  (.iload_n 1, 1, 1, 0, 0, 0, 0),
  (.iaload, 1, 0, 0, 0, 0, 0),
  (.istore_n 3, 1, 3, 0, 0, 0, 0),
  (.iload_n 2, 1, 2, 0, 0, 0, 0),
  (.tableswitch 68 0 2 #[26, 47, 58], 26, 0, 0, 0, 0, 0)]
def kX11_basinOf_52 : List JI := [(.iload_n 3, 1, 3, 0, 0, 0, 0),
  (.iconst (-1), 1, 0, -1, 0, 0, 0),
  (.if_icmp .ne 7, 3, 61, 0, 0, 0, 0),
  (.iconst 0, 1, 0, 0, 0, 0, 0),
  (.goto 14, 3, 72, 0, 0, 0, 0)]
def kX11_basinOf_61 : List JI := [(.iload_n 3, 1, 3, 0, 0, 0, 0),
  (.bipush (-2), 2, 0, -2, 0, 0, 0),
  (.if_icmp .ne 7, 3, 71, 0, 0, 0, 0),
  (.iconst 2, 1, 0, 2, 0, 0, 0),
  (.goto 4, 3, 72, 0, 0, 0, 0)]
def kX11_basinOf_71 : List JI := [(.iconst 1, 1, 0, 1, 0, 0, 0)]
def kX11_basinOf_72 : List JI := [(.ireturn, 1, 0, 0, 0, 0, 0)]
def kX11_basinOf_73 : List JI := [(.iload_n 3, 1, 3, 0, 0, 0, 0),
  (.ifCond .ge 8, 3, 82, 0, 0, 0, 0),
  (.bipush (-9), 2, 0, -9, 0, 0, 0),
  (.goto 4, 3, 83, 0, 0, 0, 0)]
def kX11_basinOf_82 : List JI := [(.iload_n 3, 1, 3, 0, 0, 0, 0)]
def kX11_basinOf_83 : List JI := [(.ireturn, 1, 0, 0, 0, 0, 0)]
def kX11_basinOf_84 : List JI := [(.aload_n 0, 1, 0, 0, 0, 0, 0),
  (.getfield 37, 3, 11, 5, 4, 0, 82),
  (.getfield 207, 3, 10, 2, 4, 0, 216),
  (.iload_n 1, 1, 1, 0, 0, 0, 0),
  (.iaload, 1, 0, 0, 0, 0, 0),
  (.ireturn, 1, 0, 0, 0, 0, 0)]
def kX11_basinOf_94 : List JI := [(.aload_n 0, 1, 0, 0, 0, 0, 0),
  (.bipush (-2), 2, 0, -2, 0, 0, 0),
  (.invokevirtual 93, 3, 16, 1, 0, 11, 159),
  (.ireturn, 1, 0, 0, 0, 0, 0)]
theorem qq_X11_basinOf : (((jchk 172 0 kX11_basinOf_0 && jchk 172 15 kX11_basinOf_15) && (jchk 172 52 kX11_basinOf_52 && (jchk 172 61 kX11_basinOf_61 && jchk 172 71 kX11_basinOf_71))) && ((jchk 172 72 kX11_basinOf_72 && (jchk 172 73 kX11_basinOf_73 && jchk 172 82 kX11_basinOf_82)) && (jchk 172 83 kX11_basinOf_83 && (jchk 172 84 kX11_basinOf_84 && jchk 172 94 kX11_basinOf_94)))) = true := by decide +kernel
theorem qX11_basinOf_0 : jchk 172 0 kX11_basinOf_0 = true := jb1 (jb1 (jb1 (qq_X11_basinOf)))
theorem qX11_basinOf_15 : jchk 172 15 kX11_basinOf_15 = true := jb2 (jb1 (jb1 (qq_X11_basinOf)))
theorem qX11_basinOf_52 : jchk 172 52 kX11_basinOf_52 = true := jb1 (jb2 (jb1 (qq_X11_basinOf)))
theorem qX11_basinOf_61 : jchk 172 61 kX11_basinOf_61 = true := jb1 (jb2 (jb2 (jb1 (qq_X11_basinOf))))
theorem qX11_basinOf_71 : jchk 172 71 kX11_basinOf_71 = true := jb2 (jb2 (jb2 (jb1 (qq_X11_basinOf))))
theorem qX11_basinOf_72 : jchk 172 72 kX11_basinOf_72 = true := jb1 (jb1 (jb2 (qq_X11_basinOf)))
theorem qX11_basinOf_73 : jchk 172 73 kX11_basinOf_73 = true := jb1 (jb2 (jb1 (jb2 (qq_X11_basinOf))))
theorem qX11_basinOf_82 : jchk 172 82 kX11_basinOf_82 = true := jb2 (jb2 (jb1 (jb2 (qq_X11_basinOf))))
theorem qX11_basinOf_83 : jchk 172 83 kX11_basinOf_83 = true := jb1 (jb2 (jb2 (qq_X11_basinOf)))
theorem qX11_basinOf_84 : jchk 172 84 kX11_basinOf_84 = true := jb1 (jb2 (jb2 (jb2 (qq_X11_basinOf))))
theorem qX11_basinOf_94 : jchk 172 94 kX11_basinOf_94 = true := jb2 (jb2 (jb2 (jb2 (qq_X11_basinOf))))
def kX12_basinOf_0 : List JI := [(.iload_n 1, 1, 1, 0, 0, 0, 0),
  (.iconst 0, 1, 0, 0, 0, 0, 0),
  (.iconst 5, 1, 0, 5, 0, 0, 0),
  (.invokestatic 168, 3, 19, 3, 0, 12, 162),
  (.ifCond .ne 9, 3, 15, 0, 0, 0, 0),
  (.aload_n 0, 1, 0, 0, 0, 0, 0),
  (.iconst (-1), 1, 0, -1, 0, 0, 0),
  (.invokevirtual 172, 3, 20, 1, 0, 12, 163),
  (.ireturn, 1, 0, 0, 0, 0, 0)]
def kX12_basinOf_15 : List JI := [(.aload_n 0, 1, 0, 0, 0, 0, 0),
  (.getfield 86, 3, 12, 28, 4, 0, 127),
  (.iload_n 1, 1, 1, 0, 0, 0, 0),
  (.iaload, 1, 0, 0, 0, 0, 0),
  (.bipush 100, 2, 0, 100, 0, 0, 0),
  (.if_icmp .ne 7, 3, 30, 0, 0, 0, 0),
  (.iconst 1, 1, 0, 1, 0, 0, 0),
  (.goto 4, 3, 31, 0, 0, 0, 0)]
def kX12_basinOf_30 : List JI := [(.iconst 0, 1, 0, 0, 0, 0, 0)]
def kX12_basinOf_31 : List JI := [(.istore_n 3, 1, 3, 0, 0, 0, 0),
  (.iload_n 2, 1, 2, 0, 0, 0, 0),
  (.tableswitch 90 0 2 #[27, 50, 75], 27, 0, 0, 0, 0, 0)]
def kX12_basinOf_60 : List JI := [(.aload_n 0, 1, 0, 0, 0, 0, 0),
  (.getfield 86, 3, 12, 28, 4, 0, 127),
  (.iload_n 1, 1, 1, 0, 0, 0, 0),
  (.iaload, 1, 0, 0, 0, 0, 0),
  (.ifCond .ge 7, 3, 73, 0, 0, 0, 0),
  (.iconst 0, 1, 0, 0, 0, 0, 0),
  (.goto 12, 3, 82, 0, 0, 0, 0)]
def kX12_basinOf_73 : List JI := [(.iload_n 3, 1, 3, 0, 0, 0, 0),
  (.ifCond .eq 7, 3, 81, 0, 0, 0, 0),
  (.iconst 2, 1, 0, 2, 0, 0, 0),
  (.goto 4, 3, 82, 0, 0, 0, 0)]
def kX12_basinOf_81 : List JI := [(.iconst 1, 1, 0, 1, 0, 0, 0)]
def kX12_basinOf_82 : List JI := [(.ireturn, 1, 0, 0, 0, 0, 0)]
def kX12_basinOf_83 : List JI := [(.aload_n 0, 1, 0, 0, 0, 0, 0),
  (.getfield 86, 3, 12, 28, 4, 0, 127),
  (.iload_n 1, 1, 1, 0, 0, 0, 0),
  (.iaload, 1, 0, 0, 0, 0, 0),
  (.ifCond .lt 7, 3, 96, 0, 0, 0, 0),
  (.iload_n 3, 1, 3, 0, 0, 0, 0),
  (.ifCond .eq 8, 3, 101, 0, 0, 0, 0)]
def kX12_basinOf_96 : List JI := [(.bipush (-9), 2, 0, -9, 0, 0, 0),
  (.goto 9, 3, 107, 0, 0, 0, 0)]
def kX12_basinOf_101 : List JI := [(.aload_n 0, 1, 0, 0, 0, 0, 0),
  (.getfield 86, 3, 12, 28, 4, 0, 127),
  (.iload_n 1, 1, 1, 0, 0, 0, 0),
  (.iaload, 1, 0, 0, 0, 0, 0)]
def kX12_basinOf_107 : List JI := [(.ireturn, 1, 0, 0, 0, 0, 0)]
def kX12_basinOf_108 : List JI := [(.iload_n 3, 1, 3, 0, 0, 0, 0),
  (.ifCond .eq 12, 3, 121, 0, 0, 0, 0),
  (.aload_n 0, 1, 0, 0, 0, 0, 0),
  (.getfield 89, 3, 12, 29, 4, 0, 128),
  (.iload_n 1, 1, 1, 0, 0, 0, 0),
  (.iaload, 1, 0, 0, 0, 0, 0),
  (.goto 4, 3, 122, 0, 0, 0, 0)]
def kX12_basinOf_121 : List JI := [(.iconst 0, 1, 0, 0, 0, 0, 0)]
def kX12_basinOf_122 : List JI := [(.ireturn, 1, 0, 0, 0, 0, 0)]
def kX12_basinOf_123 : List JI := [(.aload_n 0, 1, 0, 0, 0, 0, 0),
  (.bipush (-2), 2, 0, -2, 0, 0, 0),
  (.invokevirtual 172, 3, 20, 1, 0, 12, 163),
  (.ireturn, 1, 0, 0, 0, 0, 0)]
theorem qq_X12_basinOf : ((((jchk 173 0 kX12_basinOf_0 && jchk 173 15 kX12_basinOf_15) && (jchk 173 30 kX12_basinOf_30 && jchk 173 31 kX12_basinOf_31)) && ((jchk 173 60 kX12_basinOf_60 && jchk 173 73 kX12_basinOf_73) && (jchk 173 81 kX12_basinOf_81 && jchk 173 82 kX12_basinOf_82))) && (((jchk 173 83 kX12_basinOf_83 && jchk 173 96 kX12_basinOf_96) && (jchk 173 101 kX12_basinOf_101 && jchk 173 107 kX12_basinOf_107)) && ((jchk 173 108 kX12_basinOf_108 && jchk 173 121 kX12_basinOf_121) && (jchk 173 122 kX12_basinOf_122 && jchk 173 123 kX12_basinOf_123)))) = true := by decide +kernel
theorem qX12_basinOf_0 : jchk 173 0 kX12_basinOf_0 = true := jb1 (jb1 (jb1 (jb1 (qq_X12_basinOf))))
theorem qX12_basinOf_15 : jchk 173 15 kX12_basinOf_15 = true := jb2 (jb1 (jb1 (jb1 (qq_X12_basinOf))))
theorem qX12_basinOf_30 : jchk 173 30 kX12_basinOf_30 = true := jb1 (jb2 (jb1 (jb1 (qq_X12_basinOf))))
theorem qX12_basinOf_31 : jchk 173 31 kX12_basinOf_31 = true := jb2 (jb2 (jb1 (jb1 (qq_X12_basinOf))))
theorem qX12_basinOf_60 : jchk 173 60 kX12_basinOf_60 = true := jb1 (jb1 (jb2 (jb1 (qq_X12_basinOf))))
theorem qX12_basinOf_73 : jchk 173 73 kX12_basinOf_73 = true := jb2 (jb1 (jb2 (jb1 (qq_X12_basinOf))))
theorem qX12_basinOf_81 : jchk 173 81 kX12_basinOf_81 = true := jb1 (jb2 (jb2 (jb1 (qq_X12_basinOf))))
theorem qX12_basinOf_82 : jchk 173 82 kX12_basinOf_82 = true := jb2 (jb2 (jb2 (jb1 (qq_X12_basinOf))))
theorem qX12_basinOf_83 : jchk 173 83 kX12_basinOf_83 = true := jb1 (jb1 (jb1 (jb2 (qq_X12_basinOf))))
theorem qX12_basinOf_96 : jchk 173 96 kX12_basinOf_96 = true := jb2 (jb1 (jb1 (jb2 (qq_X12_basinOf))))
theorem qX12_basinOf_101 : jchk 173 101 kX12_basinOf_101 = true := jb1 (jb2 (jb1 (jb2 (qq_X12_basinOf))))
theorem qX12_basinOf_107 : jchk 173 107 kX12_basinOf_107 = true := jb2 (jb2 (jb1 (jb2 (qq_X12_basinOf))))
theorem qX12_basinOf_108 : jchk 173 108 kX12_basinOf_108 = true := jb1 (jb1 (jb2 (jb2 (qq_X12_basinOf))))
theorem qX12_basinOf_121 : jchk 173 121 kX12_basinOf_121 = true := jb2 (jb1 (jb2 (jb2 (qq_X12_basinOf))))
theorem qX12_basinOf_122 : jchk 173 122 kX12_basinOf_122 = true := jb1 (jb2 (jb2 (jb2 (qq_X12_basinOf))))
theorem qX12_basinOf_123 : jchk 173 123 kX12_basinOf_123 = true := jb2 (jb2 (jb2 (jb2 (qq_X12_basinOf))))
def kX11_stock_0 : List JI := [(.iload_n 1, 1, 1, 0, 0, 0, 0),
  (.bipush 6, 2, 0, 6, 0, 0, 0),
  (.invokestatic 85, 3, 14, 2, 0, 11, 157),
  (.ifCond .ne 11, 3, 17, 0, 0, 0, 0),
  (.aload_n 0, 1, 0, 0, 0, 0, 0),
  (.iconst (-1), 1, 0, -1, 0, 0, 0),
  (.invokevirtual 93, 3, 16, 1, 0, 11, 159),
  (.goto 12, 3, 26, 0, 0, 0, 0)]
def kX11_stock_17 : List JI := [(.aload_n 0, 1, 0, 0, 0, 0, 0),
  (.getfield 37, 3, 11, 5, 4, 0, 82),
  (.getfield 104, 3, 10, 0, 4, 0, 165),
  (.iload_n 1, 1, 1, 0, 0, 0, 0),
  (.iaload, 1, 0, 0, 0, 0, 0)]
def kX11_stock_26 : List JI := [(.ireturn, 1, 0, 0, 0, 0, 0)]
theorem qq_X11_stock : (jchk 174 0 kX11_stock_0 && (jchk 174 17 kX11_stock_17 && jchk 174 26 kX11_stock_26)) = true := by decide +kernel
theorem qX11_stock_0 : jchk 174 0 kX11_stock_0 = true := jb1 (qq_X11_stock)
theorem qX11_stock_17 : jchk 174 17 kX11_stock_17 = true := jb1 (jb2 (qq_X11_stock))
theorem qX11_stock_26 : jchk 174 26 kX11_stock_26 = true := jb2 (jb2 (qq_X11_stock))
def kX12_stock_0 : List JI := [(.iload_n 1, 1, 1, 0, 0, 0, 0),
  (.iconst 0, 1, 0, 0, 0, 0, 0),
  (.iconst 5, 1, 0, 5, 0, 0, 0),
  (.invokestatic 168, 3, 19, 3, 0, 12, 162),
  (.ifCond .eq 12, 3, 18, 0, 0, 0, 0),
  (.aload_n 0, 1, 0, 0, 0, 0, 0),
  (.getfield 22, 3, 12, 5, 4, 0, 106),
  (.iload_n 1, 1, 1, 0, 0, 0, 0),
  (.iaload, 1, 0, 0, 0, 0, 0),
  (.goto 8, 3, 23, 0, 0, 0, 0)]
def kX12_stock_18 : List JI := [(.aload_n 0, 1, 0, 0, 0, 0, 0),
  (.iconst (-1), 1, 0, -1, 0, 0, 0),
  (.invokevirtual 172, 3, 20, 1, 0, 12, 163)]
def kX12_stock_23 : List JI := [(.ireturn, 1, 0, 0, 0, 0, 0)]
theorem qq_X12_stock : (jchk 175 0 kX12_stock_0 && (jchk 175 18 kX12_stock_18 && jchk 175 23 kX12_stock_23)) = true := by decide +kernel
theorem qX12_stock_0 : jchk 175 0 kX12_stock_0 = true := jb1 (qq_X12_stock)
theorem qX12_stock_18 : jchk 175 18 kX12_stock_18 = true := jb1 (jb2 (qq_X12_stock))
theorem qX12_stock_23 : jchk 175 23 kX12_stock_23 = true := jb2 (jb2 (qq_X12_stock))
