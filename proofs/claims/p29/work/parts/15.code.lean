def kX6_readOff_0 : List JI := [(.aload_n 0, 1, 0, 0, 0, 0, 0),
  (.lload_n 1, 1, 1, 0, 0, 0, 0),
  (.ldc2_w 93, 3, 0, 4750104241, 0, 0, 294),
  (.ldiv, 1, 0, 0, 0, 0, 0),
  (.ldc2_w 95, 3, 0, 4096, 0, 0, 298),
  (.lrem, 1, 0, 0, 0, 0, 0),
  (.l2i, 1, 0, 0, 0, 0, 0),
  (.putfield 97, 3, 6, 1, 1, 0, 299),
  (.aload_n 0, 1, 0, 0, 0, 0, 0),
  (.iconst 0, 1, 0, 0, 0, 0, 0),
  (.putfield 100, 3, 6, 0, 1, 0, 300),
  (.iconst 0, 1, 0, 0, 0, 0, 0),
  (.istore 4, 2, 4, 0, 0, 0, 0)]
def kX6_readOff_22 : List JI := [(.iload 4, 2, 4, 0, 0, 0, 0),
  (.iload_n 3, 1, 3, 0, 0, 0, 0),
  (.if_icmp .ge 62, 3, 87, 0, 0, 0, 0),
  (.lload_n 1, 1, 1, 0, 0, 0, 0),
  (.getstatic 71, 3, 0, -6, 0, 0, 284),
  (.iload 4, 2, 4, 0, 0, 0, 0),
  (.laload, 1, 0, 0, 0, 0, 0),
  (.ldiv, 1, 0, 0, 0, 0, 0),
  (.ldc2_w 103, 3, 0, 41, 0, 0, 301),
  (.lrem, 1, 0, 0, 0, 0, 0),
  (.l2i, 1, 0, 0, 0, 0, 0),
  (.istore 5, 2, 5, 0, 0, 0, 0),
  (.aload_n 0, 1, 0, 0, 0, 0, 0),
  (.getfield 11, 3, 6, 2, 4, 0, 45),
  (.iload 4, 2, 4, 0, 0, 0, 0),
  (.iload 5, 2, 5, 0, 0, 0, 0),
  (.bipush 40, 2, 0, 40, 0, 0, 0),
  (.if_icmp .ne 8, 3, 61, 0, 0, 0, 0),
  (.bipush (-9), 2, 0, -9, 0, 0, 0),
  (.goto 5, 3, 63, 0, 0, 0, 0)]
def kX6_readOff_61 : List JI := [(.iload 5, 2, 5, 0, 0, 0, 0)]
def kX6_readOff_63 : List JI := [(.iastore, 1, 0, 0, 0, 0, 0),
  (.iload 5, 2, 5, 0, 0, 0, 0),
  (.bipush 40, 2, 0, 40, 0, 0, 0),
  (.if_icmp .eq 13, 3, 81, 0, 0, 0, 0),
  (.aload_n 0, 1, 0, 0, 0, 0, 0),
  (.dup, 1, 0, 0, 0, 0, 0),
  (.getfield 100, 3, 6, 0, 1, 0, 300),
  (.iconst 1, 1, 0, 1, 0, 0, 0),
  (.iadd, 1, 0, 0, 0, 0, 0),
  (.putfield 100, 3, 6, 0, 1, 0, 300)]
def kX6_readOff_81 : List JI := [(.iinc 4 1, 3, 4, 1, 0, 0, 0),
  (.goto (-62), 3, 22, 0, 0, 0, 0)]
def kX6_readOff_87 : List JI := [(.return_, 1, 0, 0, 0, 0, 0)]
theorem qq_X6_readOff : ((jchk 112 0 kX6_readOff_0 && (jchk 112 22 kX6_readOff_22 && jchk 112 61 kX6_readOff_61)) && (jchk 112 63 kX6_readOff_63 && (jchk 112 81 kX6_readOff_81 && jchk 112 87 kX6_readOff_87))) = true := by decide +kernel
theorem qX6_readOff_0 : jchk 112 0 kX6_readOff_0 = true := jb1 (jb1 (qq_X6_readOff))
theorem qX6_readOff_22 : jchk 112 22 kX6_readOff_22 = true := jb1 (jb2 (jb1 (qq_X6_readOff)))
theorem qX6_readOff_61 : jchk 112 61 kX6_readOff_61 = true := jb2 (jb2 (jb1 (qq_X6_readOff)))
theorem qX6_readOff_63 : jchk 112 63 kX6_readOff_63 = true := jb1 (jb2 (qq_X6_readOff))
theorem qX6_readOff_81 : jchk 112 81 kX6_readOff_81 = true := jb1 (jb2 (jb2 (qq_X6_readOff)))
theorem qX6_readOff_87 : jchk 112 87 kX6_readOff_87 = true := jb2 (jb2 (jb2 (qq_X6_readOff)))
def kX6_solve_0 : List JI := [(.aload_n 2, 1, 2, 0, 0, 0, 0),
  (.getfield 22, 3, 8, 0, 4, 0, 285),
  (.iload_n 3, 1, 3, 0, 0, 0, 0),
  (.iaload, 1, 0, 0, 0, 0, 0),
  (.istore 4, 2, 4, 0, 0, 0, 0),
  (.iconst 1, 1, 0, 1, 0, 0, 0),
  (.iload 4, 2, 4, 0, 0, 0, 0),
  (.ishl, 1, 0, 0, 0, 0, 0),
  (.istore 5, 2, 5, 0, 0, 0, 0),
  (.aload_n 0, 1, 0, 0, 0, 0, 0),
  (.getfield 15, 3, 6, 3, 4, 0, 46),
  (.ldc2_w 27, 3, 0, 4611686018427387904, 0, 0, 296),
  (.invokestatic 29, 3, 106, 2, 0, 0, 302),
  (.aload_n 0, 1, 0, 0, 0, 0, 0),
  (.getfield 15, 3, 6, 3, 4, 0, 46),
  (.iconst 0, 1, 0, 0, 0, 0, 0),
  (.lconst 0, 1, 0, 0, 0, 0, 0),
  (.lastore, 1, 0, 0, 0, 0, 0),
  (.iconst 0, 1, 0, 0, 0, 0, 0),
  (.istore 6, 2, 6, 0, 0, 0, 0)]
def kX6_solve_34 : List JI := [(.iload 6, 2, 6, 0, 0, 0, 0),
  (.iload 4, 2, 4, 0, 0, 0, 0),
  (.if_icmp .ge 23, 3, 61, 0, 0, 0, 0),
  (.aload_n 0, 1, 0, 0, 0, 0, 0),
  (.getfield 15, 3, 6, 3, 4, 0, 46),
  (.iconst 0, 1, 0, 0, 0, 0, 0),
  (.dup2, 1, 0, 0, 0, 0, 0),
  (.laload, 1, 0, 0, 0, 0, 0),
  (.iload 6, 2, 6, 0, 0, 0, 0),
  (.invokestatic 35, 3, 107, 1, 0, 6, 295),
  (.ladd, 1, 0, 0, 0, 0, 0),
  (.lastore, 1, 0, 0, 0, 0, 0),
  (.iinc 6 1, 3, 6, 1, 0, 0, 0),
  (.goto (-24), 3, 34, 0, 0, 0, 0)]
def kX6_solve_61 : List JI := [(.iconst 0, 1, 0, 0, 0, 0, 0),
  (.istore 6, 2, 6, 0, 0, 0, 0)]
def kX6_solve_64 : List JI := [(.iload 6, 2, 6, 0, 0, 0, 0),
  (.aload_n 1, 1, 1, 0, 0, 0, 0),
  (.getfield 39, 3, 3, 0, 1, 0, 303),
  (.if_icmp .ge 33, 3, 103, 0, 0, 0, 0),
  (.aload_n 1, 1, 1, 0, 0, 0, 0),
  (.iload 6, 2, 6, 0, 0, 0, 0),
  (.invokevirtual 45, 3, 84, 1, 0, 3, 304),
  (.ifCond .eq 18, 3, 97, 0, 0, 0, 0),
  (.aload_n 0, 1, 0, 0, 0, 0, 0),
  (.aload_n 0, 1, 0, 0, 0, 0, 0),
  (.aload_n 1, 1, 1, 0, 0, 0, 0),
  (.iload 6, 2, 6, 0, 0, 0, 0),
  (.aload_n 2, 1, 2, 0, 0, 0, 0),
  (.iload_n 3, 1, 3, 0, 0, 0, 0),
  (.invokevirtual 49, 3, 109, 4, 0, 6, 305),
  (.iload 5, 2, 5, 0, 0, 0, 0),
  (.invokevirtual 53, 3, 111, 2, 0, 6, 306)]
def kX6_solve_97 : List JI := [(.iinc 6 1, 3, 6, 1, 0, 0, 0),
  (.goto (-36), 3, 64, 0, 0, 0, 0)]
def kX6_solve_103 : List JI := [(.aload_n 0, 1, 0, 0, 0, 0, 0),
  (.getfield 15, 3, 6, 3, 4, 0, 46),
  (.iconst 0, 1, 0, 0, 0, 0, 0),
  (.laload, 1, 0, 0, 0, 0, 0),
  (.lstore 6, 2, 6, 0, 0, 0, 0),
  (.iconst 1, 1, 0, 1, 0, 0, 0),
  (.istore 8, 2, 8, 0, 0, 0, 0)]
def kX6_solve_114 : List JI := [(.iload 8, 2, 8, 0, 0, 0, 0),
  (.iload 5, 2, 5, 0, 0, 0, 0),
  (.if_icmp .ge 23, 3, 141, 0, 0, 0, 0),
  (.lload 6, 2, 6, 0, 0, 0, 0),
  (.aload_n 0, 1, 0, 0, 0, 0, 0),
  (.getfield 15, 3, 6, 3, 4, 0, 46),
  (.iload 8, 2, 8, 0, 0, 0, 0),
  (.laload, 1, 0, 0, 0, 0, 0),
  (.invokestatic 57, 3, 997, 3, 0, 0, 297),
  (.lstore 6, 2, 6, 0, 0, 0, 0),
  (.iinc 8 1, 3, 8, 1, 0, 0, 0),
  (.goto (-24), 3, 114, 0, 0, 0, 0)]
def kX6_solve_141 : List JI := [(.aload_n 0, 1, 0, 0, 0, 0, 0),
  (.lload 6, 2, 6, 0, 0, 0, 0),
  (.iload 4, 2, 4, 0, 0, 0, 0),
  (.invokevirtual 63, 3, 112, 2, 0, 6, 307),
  (.return_, 1, 0, 0, 0, 0, 0)]
theorem qq_X6_solve : (((jchk 113 0 kX6_solve_0 && jchk 113 34 kX6_solve_34) && (jchk 113 61 kX6_solve_61 && jchk 113 64 kX6_solve_64)) && ((jchk 113 97 kX6_solve_97 && jchk 113 103 kX6_solve_103) && (jchk 113 114 kX6_solve_114 && jchk 113 141 kX6_solve_141))) = true := by decide +kernel
theorem qX6_solve_0 : jchk 113 0 kX6_solve_0 = true := jb1 (jb1 (jb1 (qq_X6_solve)))
theorem qX6_solve_34 : jchk 113 34 kX6_solve_34 = true := jb2 (jb1 (jb1 (qq_X6_solve)))
theorem qX6_solve_61 : jchk 113 61 kX6_solve_61 = true := jb1 (jb2 (jb1 (qq_X6_solve)))
theorem qX6_solve_64 : jchk 113 64 kX6_solve_64 = true := jb2 (jb2 (jb1 (qq_X6_solve)))
theorem qX6_solve_97 : jchk 113 97 kX6_solve_97 = true := jb1 (jb1 (jb2 (qq_X6_solve)))
theorem qX6_solve_103 : jchk 113 103 kX6_solve_103 = true := jb2 (jb1 (jb2 (qq_X6_solve)))
theorem qX6_solve_114 : jchk 113 114 kX6_solve_114 = true := jb1 (jb2 (jb2 (qq_X6_solve)))
theorem qX6_solve_141 : jchk 113 141 kX6_solve_141 = true := jb2 (jb2 (jb2 (qq_X6_solve)))
def kX11_match_0 : List JI := [(.iload_n 1, 1, 1, 0, 0, 0, 0),
  (.iconst 3, 1, 0, 3, 0, 0, 0),
  (.invokestatic 85, 3, 14, 2, 0, 11, 157),
  (.ifCond .ne 7, 3, 12, 0, 0, 0, 0),
  (.iconst (-1), 1, 0, -1, 0, 0, 0),
  (.goto 27, 3, 36, 0, 0, 0, 0)]
def kX11_match_12 : List JI := [(.iload_n 2, 1, 2, 0, 0, 0, 0),
  (.iconst 2, 1, 0, 2, 0, 0, 0),
  (.aload_n 0, 1, 0, 0, 0, 0, 0),
  (.getfield 51, 3, 11, 7, 4, 0, 88),
  (.getfield 240, 3, 8, 0, 4, 0, 280),
  (.iload_n 1, 1, 1, 0, 0, 0, 0),
  (.iaload, 1, 0, 0, 0, 0, 0),
  (.iadd, 1, 0, 0, 0, 0, 0),
  (.invokestatic 85, 3, 14, 2, 0, 11, 157),
  (.ifCond .ne 8, 3, 35, 0, 0, 0, 0),
  (.bipush (-2), 2, 0, -2, 0, 0, 0),
  (.goto 4, 3, 36, 0, 0, 0, 0)]
def kX11_match_35 : List JI := [(.iconst 0, 1, 0, 0, 0, 0, 0)]
def kX11_match_36 : List JI := [(.istore_n 3, 1, 3, 0, 0, 0, 0),
  (.iload_n 3, 1, 3, 0, 0, 0, 0),
  (.ifCond .eq 9, 3, 47, 0, 0, 0, 0),
  (.aload_n 0, 1, 0, 0, 0, 0, 0),
  (.iload_n 3, 1, 3, 0, 0, 0, 0),
  (.invokevirtual 93, 3, 16, 1, 0, 11, 159),
  (.ireturn, 1, 0, 0, 0, 0, 0)]
def kX11_match_47 : List JI := [(.aload_n 0, 1, 0, 0, 0, 0, 0),
  (.getfield 58, 3, 11, 8, 4, 0, 91),
  (.aload_n 0, 1, 0, 0, 0, 0, 0),
  (.getfield 44, 3, 11, 6, 4, 0, 85),
  (.aload_n 0, 1, 0, 0, 0, 0, 0),
  (.getfield 51, 3, 11, 7, 4, 0, 88),
  (.iload_n 1, 1, 1, 0, 0, 0, 0),
  (.invokevirtual 247, 3, 113, 3, 0, 6, 308),
  (.iload_n 2, 1, 2, 0, 0, 0, 0),
  (.lookupswitch 44 #[(0, 28), (1, 36)], 28, 0, 0, 0, 0, 0)]
def kX11_match_92 : List JI := [(.aload_n 0, 1, 0, 0, 0, 0, 0),
  (.getfield 58, 3, 11, 8, 4, 0, 91),
  (.getfield 251, 3, 6, 0, 1, 0, 309),
  (.ireturn, 1, 0, 0, 0, 0, 0)]
def kX11_match_100 : List JI := [(.aload_n 0, 1, 0, 0, 0, 0, 0),
  (.getfield 58, 3, 11, 8, 4, 0, 91),
  (.getfield 254, 3, 6, 1, 1, 0, 310),
  (.ireturn, 1, 0, 0, 0, 0, 0)]
def kX11_match_108 : List JI := [(.aload_n 0, 1, 0, 0, 0, 0, 0),
  (.getfield 58, 3, 11, 8, 4, 0, 91),
  (.getfield 257, 3, 6, 2, 4, 0, 311),
  (.iload_n 2, 1, 2, 0, 0, 0, 0),
  (.iconst 2, 1, 0, 2, 0, 0, 0),
  (.isub, 1, 0, 0, 0, 0, 0),
  (.iaload, 1, 0, 0, 0, 0, 0),
  (.ireturn, 1, 0, 0, 0, 0, 0)]
theorem qq_X11_match : (((jchk 114 0 kX11_match_0 && jchk 114 12 kX11_match_12) && (jchk 114 35 kX11_match_35 && jchk 114 36 kX11_match_36)) && ((jchk 114 47 kX11_match_47 && jchk 114 92 kX11_match_92) && (jchk 114 100 kX11_match_100 && jchk 114 108 kX11_match_108))) = true := by decide +kernel
theorem qX11_match_0 : jchk 114 0 kX11_match_0 = true := jb1 (jb1 (jb1 (qq_X11_match)))
theorem qX11_match_12 : jchk 114 12 kX11_match_12 = true := jb2 (jb1 (jb1 (qq_X11_match)))
theorem qX11_match_35 : jchk 114 35 kX11_match_35 = true := jb1 (jb2 (jb1 (qq_X11_match)))
theorem qX11_match_36 : jchk 114 36 kX11_match_36 = true := jb2 (jb2 (jb1 (qq_X11_match)))
theorem qX11_match_47 : jchk 114 47 kX11_match_47 = true := jb1 (jb1 (jb2 (qq_X11_match)))
theorem qX11_match_92 : jchk 114 92 kX11_match_92 = true := jb2 (jb1 (jb2 (qq_X11_match)))
theorem qX11_match_100 : jchk 114 100 kX11_match_100 = true := jb1 (jb2 (jb2 (qq_X11_match)))
theorem qX11_match_108 : jchk 114 108 kX11_match_108 = true := jb2 (jb2 (jb2 (qq_X11_match)))
def kX12_fits_0 : List JI := [(.aload_n 0, 1, 0, 0, 0, 0, 0),
  (.getfield 98, 3, 12, 36, 4, 0, 131),
  (.iload_n 1, 1, 1, 0, 0, 0, 0),
  (.iaload, 1, 0, 0, 0, 0, 0),
  (.aload_n 0, 1, 0, 0, 0, 0, 0),
  (.getfield 116, 3, 12, 42, 4, 0, 137),
  (.iload_n 2, 1, 2, 0, 0, 0, 0),
  (.iaload, 1, 0, 0, 0, 0, 0),
  (.isub, 1, 0, 0, 0, 0, 0),
  (.istore_n 3, 1, 3, 0, 0, 0, 0),
  (.aload_n 0, 1, 0, 0, 0, 0, 0),
  (.getfield 104, 3, 12, 38, 4, 0, 133),
  (.iload_n 1, 1, 1, 0, 0, 0, 0),
  (.iaload, 1, 0, 0, 0, 0, 0),
  (.ifCond .ge 58, 3, 78, 0, 0, 0, 0),
  (.aload_n 0, 1, 0, 0, 0, 0, 0),
  (.getfield 95, 3, 12, 35, 4, 0, 130),
  (.iload_n 1, 1, 1, 0, 0, 0, 0),
  (.iaload, 1, 0, 0, 0, 0, 0),
  (.aload_n 0, 1, 0, 0, 0, 0, 0),
  (.getfield 113, 3, 12, 41, 4, 0, 136),
  (.iload_n 2, 1, 2, 0, 0, 0, 0),
  (.iaload, 1, 0, 0, 0, 0, 0),
  (.if_icmp .ne 43, 3, 78, 0, 0, 0, 0),
  (.iload_n 3, 1, 3, 0, 0, 0, 0),
  (.aload_n 0, 1, 0, 0, 0, 0, 0),
  (.getfield 119, 3, 12, 43, 4, 0, 138),
  (.iload_n 2, 1, 2, 0, 0, 0, 0),
  (.iaload, 1, 0, 0, 0, 0, 0),
  (.if_icmp .gt 33, 3, 78, 0, 0, 0, 0),
  (.iload_n 3, 1, 3, 0, 0, 0, 0),
  (.ineg, 1, 0, 0, 0, 0, 0),
  (.aload_n 0, 1, 0, 0, 0, 0, 0),
  (.getfield 119, 3, 12, 43, 4, 0, 138),
  (.iload_n 2, 1, 2, 0, 0, 0, 0),
  (.iaload, 1, 0, 0, 0, 0, 0),
  (.if_icmp .gt 22, 3, 78, 0, 0, 0, 0),
  (.aload_n 0, 1, 0, 0, 0, 0, 0),
  (.getfield 101, 3, 12, 37, 4, 0, 132),
  (.iload_n 1, 1, 1, 0, 0, 0, 0),
  (.iaload, 1, 0, 0, 0, 0, 0),
  (.aload_n 0, 1, 0, 0, 0, 0, 0),
  (.getfield 122, 3, 12, 44, 4, 0, 139),
  (.iload_n 2, 1, 2, 0, 0, 0, 0),
  (.iaload, 1, 0, 0, 0, 0, 0),
  (.if_icmp .lt 7, 3, 78, 0, 0, 0, 0),
  (.iconst 1, 1, 0, 1, 0, 0, 0),
  (.goto 4, 3, 79, 0, 0, 0, 0)]
def kX12_fits_78 : List JI := [(.iconst 0, 1, 0, 0, 0, 0, 0)]
def kX12_fits_79 : List JI := [(.ireturn, 1, 0, 0, 1, 0, 0)]
theorem qq_X12_fits : (jchk 115 0 kX12_fits_0 && (jchk 115 78 kX12_fits_78 && jchk 115 79 kX12_fits_79)) = true := by decide +kernel
theorem qX12_fits_0 : jchk 115 0 kX12_fits_0 = true := jb1 (qq_X12_fits)
theorem qX12_fits_78 : jchk 115 78 kX12_fits_78 = true := jb1 (jb2 (qq_X12_fits))
theorem qX12_fits_79 : jchk 115 79 kX12_fits_79 = true := jb2 (jb2 (qq_X12_fits))
def kX12_ones_0 : List JI := [(.iconst 0, 1, 0, 0, 0, 0, 0),
  (.istore_n 1, 1, 1, 0, 0, 0, 0),
  (.iload_n 0, 1, 0, 0, 0, 0, 0),
  (.istore_n 2, 1, 2, 0, 0, 0, 0)]
def kX12_ones_4 : List JI := [(.iload_n 2, 1, 2, 0, 0, 0, 0),
  (.ifCond .le 16, 3, 21, 0, 0, 0, 0),
  (.iload_n 1, 1, 1, 0, 0, 0, 0),
  (.iload_n 2, 1, 2, 0, 0, 0, 0),
  (.iconst 2, 1, 0, 2, 0, 0, 0),
  (.irem, 1, 0, 0, 0, 0, 0),
  (.iadd, 1, 0, 0, 0, 0, 0),
  (.istore_n 1, 1, 1, 0, 0, 0, 0),
  (.iload_n 2, 1, 2, 0, 0, 0, 0),
  (.iconst 2, 1, 0, 2, 0, 0, 0),
  (.idiv, 1, 0, 0, 0, 0, 0),
  (.istore_n 2, 1, 2, 0, 0, 0, 0),
  (.goto (-14), 3, 4, 0, 0, 0, 0)]
def kX12_ones_21 : List JI := [(.iload_n 1, 1, 1, 0, 0, 0, 0),
  (.ireturn, 1, 0, 0, 0, 0, 0)]
theorem qq_X12_ones : (jchk 116 0 kX12_ones_0 && (jchk 116 4 kX12_ones_4 && jchk 116 21 kX12_ones_21)) = true := by decide +kernel
theorem qX12_ones_0 : jchk 116 0 kX12_ones_0 = true := jb1 (qq_X12_ones)
theorem qX12_ones_4 : jchk 116 4 kX12_ones_4 = true := jb1 (jb2 (qq_X12_ones))
theorem qX12_ones_21 : jchk 116 21 kX12_ones_21 = true := jb2 (jb2 (qq_X12_ones))
def kX12_solve_0 : List JI := [(.iconst 0, 1, 0, 0, 0, 0, 0),
  (.istore_n 3, 1, 3, 0, 0, 0, 0)]
def kX12_solve_2 : List JI := [(.iload_n 3, 1, 3, 0, 0, 0, 0),
  (.bipush 64, 2, 0, 64, 0, 0, 0),
  (.if_icmp .ge 25, 3, 30, 0, 0, 0, 0),
  (.aload_n 0, 1, 0, 0, 0, 0, 0),
  (.getfield 149, 3, 12, 54, 4, 0, 148),
  (.iload_n 3, 1, 3, 0, 0, 0, 0),
  (.iload_n 3, 1, 3, 0, 0, 0, 0),
  (.ifCond .ne 7, 3, 21, 0, 0, 0, 0),
  (.iconst 0, 1, 0, 0, 0, 0, 0),
  (.goto 5, 3, 23, 0, 0, 0, 0)]
def kX12_solve_21 : List JI := [(.ldc 167, 2, 0, 2000000000, 0, 0, 176)]
def kX12_solve_23 : List JI := [(.iastore, 1, 0, 0, 0, 0, 0),
  (.iinc 3 1, 3, 3, 1, 0, 0, 0),
  (.goto (-25), 3, 2, 0, 0, 0, 0)]
def kX12_solve_30 : List JI := [(.iconst 0, 1, 0, 0, 0, 0, 0),
  (.istore_n 3, 1, 3, 0, 0, 0, 0)]
def kX12_solve_32 : List JI := [(.iload_n 3, 1, 3, 0, 0, 0, 0),
  (.aload_n 0, 1, 0, 0, 0, 0, 0),
  (.getfield 239, 3, 12, 34, 1, 0, 274),
  (.if_icmp .ge 161, 3, 198, 0, 0, 0, 0),
  (.aload_n 0, 1, 0, 0, 0, 0, 0),
  (.getfield 143, 3, 12, 52, 4, 0, 146),
  (.iload_n 3, 1, 3, 0, 0, 0, 0),
  (.baload, 1, 0, 0, 0, 0, 0),
  (.ifCond .eq 6, 3, 52, 0, 0, 0, 0),
  (.goto 143, 3, 192, 0, 0, 0, 0)]
def kX12_solve_52 : List JI := [(.bipush 63, 2, 0, 63, 0, 0, 0),
  (.istore 4, 2, 4, 0, 0, 0, 0)]
def kX12_solve_56 : List JI := [(.iload 4, 2, 4, 0, 0, 0, 0),
  (.ifCond .le 134, 3, 192, 0, 0, 0, 0),
  (.iload_n 2, 1, 2, 0, 0, 0, 0),
  (.istore 5, 2, 5, 0, 0, 0, 0)]
def kX12_solve_64 : List JI := [(.iload 5, 2, 5, 0, 0, 0, 0),
  (.aload_n 0, 1, 0, 0, 0, 0, 0),
  (.getfield 110, 3, 12, 40, 4, 0, 135),
  (.iload_n 1, 1, 1, 0, 0, 0, 0),
  (.iaload, 1, 0, 0, 0, 0, 0),
  (.if_icmp .ge 114, 3, 186, 0, 0, 0, 0),
  (.iload 4, 2, 4, 0, 0, 0, 0),
  (.iconst 1, 1, 0, 1, 0, 0, 0),
  (.iload 5, 2, 5, 0, 0, 0, 0),
  (.ishl, 1, 0, 0, 0, 0, 0),
  (.iconst (-1), 1, 0, -1, 0, 0, 0),
  (.ixor, 1, 0, 0, 0, 0, 0),
  (.iand, 1, 0, 0, 0, 0, 0),
  (.istore 6, 2, 6, 0, 0, 0, 0),
  (.iload 6, 2, 6, 0, 0, 0, 0),
  (.iload 4, 2, 4, 0, 0, 0, 0),
  (.if_icmp .eq 90, 3, 180, 0, 0, 0, 0),
  (.aload_n 0, 1, 0, 0, 0, 0, 0),
  (.getfield 149, 3, 12, 54, 4, 0, 148),
  (.iload 6, 2, 6, 0, 0, 0, 0),
  (.iaload, 1, 0, 0, 0, 0, 0),
  (.ldc 167, 2, 0, 2000000000, 0, 0, 176),
  (.if_icmp .ge 78, 3, 180, 0, 0, 0, 0),
  (.aload_n 0, 1, 0, 0, 0, 0, 0),
  (.iload_n 3, 1, 3, 0, 0, 0, 0),
  (.bipush 6, 2, 0, 6, 0, 0, 0),
  (.iload_n 1, 1, 1, 0, 0, 0, 0),
  (.imul, 1, 0, 0, 0, 0, 0),
  (.iload 5, 2, 5, 0, 0, 0, 0),
  (.iadd, 1, 0, 0, 0, 0, 0),
  (.invokevirtual 242, 3, 115, 2, 0, 12, 312),
  (.ifCond .eq 63, 3, 180, 0, 0, 0, 0),
  (.aload_n 0, 1, 0, 0, 0, 0, 0),
  (.getfield 149, 3, 12, 54, 4, 0, 148),
  (.iload 6, 2, 6, 0, 0, 0, 0),
  (.iaload, 1, 0, 0, 0, 0, 0),
  (.aload_n 0, 1, 0, 0, 0, 0, 0),
  (.getfield 101, 3, 12, 37, 4, 0, 132),
  (.iload_n 3, 1, 3, 0, 0, 0, 0),
  (.iaload, 1, 0, 0, 0, 0, 0),
  (.iadd, 1, 0, 0, 0, 0, 0),
  (.aload_n 0, 1, 0, 0, 0, 0, 0),
  (.getfield 122, 3, 12, 44, 4, 0, 139),
  (.bipush 6, 2, 0, 6, 0, 0, 0),
  (.iload_n 1, 1, 1, 0, 0, 0, 0),
  (.imul, 1, 0, 0, 0, 0, 0),
  (.iload 5, 2, 5, 0, 0, 0, 0),
  (.iadd, 1, 0, 0, 0, 0, 0),
  (.iaload, 1, 0, 0, 0, 0, 0),
  (.isub, 1, 0, 0, 0, 0, 0),
  (.istore 7, 2, 7, 0, 0, 0, 0),
  (.aload_n 0, 1, 0, 0, 0, 0, 0),
  (.getfield 149, 3, 12, 54, 4, 0, 148),
  (.iload 4, 2, 4, 0, 0, 0, 0),
  (.iload 7, 2, 7, 0, 0, 0, 0),
  (.aload_n 0, 1, 0, 0, 0, 0, 0),
  (.getfield 149, 3, 12, 54, 4, 0, 148),
  (.iload 4, 2, 4, 0, 0, 0, 0),
  (.iaload, 1, 0, 0, 0, 0, 0),
  (.if_icmp .ge 8, 3, 172, 0, 0, 0, 0),
  (.iload 7, 2, 7, 0, 0, 0, 0),
  (.goto 10, 3, 179, 0, 0, 0, 0)]
def kX12_solve_172 : List JI := [(.aload_n 0, 1, 0, 0, 0, 0, 0),
  (.getfield 149, 3, 12, 54, 4, 0, 148),
  (.iload 4, 2, 4, 0, 0, 0, 0),
  (.iaload, 1, 0, 0, 0, 0, 0)]
def kX12_solve_179 : List JI := [(.iastore, 1, 0, 0, 0, 0, 0)]
def kX12_solve_180 : List JI := [(.iinc 5 1, 3, 5, 1, 0, 0, 0),
  (.goto (-119), 3, 64, 0, 0, 0, 0)]
def kX12_solve_186 : List JI := [(.iinc 4 (-1), 3, 4, -1, 0, 0, 0),
  (.goto (-133), 3, 56, 0, 0, 0, 0)]
def kX12_solve_192 : List JI := [(.iinc 3 1, 3, 3, 1, 0, 0, 0),
  (.goto (-163), 3, 32, 0, 0, 0, 0)]
def kX12_solve_198 : List JI := [(.aload_n 0, 1, 0, 0, 0, 0, 0),
  (.iconst 0, 1, 0, 0, 0, 0, 0),
  (.putfield 245, 3, 12, 55, 1, 0, 313),
  (.aload_n 0, 1, 0, 0, 0, 0, 0),
  (.iconst 0, 1, 0, 0, 0, 0, 0),
  (.putfield 248, 3, 12, 56, 1, 0, 314),
  (.iconst 1, 1, 0, 1, 0, 0, 0),
  (.istore_n 3, 1, 3, 0, 0, 0, 0)]
def kX12_solve_210 : List JI := [(.iload_n 3, 1, 3, 0, 0, 0, 0),
  (.bipush 64, 2, 0, 64, 0, 0, 0),
  (.if_icmp .ge 85, 3, 298, 0, 0, 0, 0),
  (.aload_n 0, 1, 0, 0, 0, 0, 0),
  (.getfield 149, 3, 12, 54, 4, 0, 148),
  (.iload_n 3, 1, 3, 0, 0, 0, 0),
  (.iaload, 1, 0, 0, 0, 0, 0),
  (.ldc 167, 2, 0, 2000000000, 0, 0, 176),
  (.if_icmp .ge 7, 3, 231, 0, 0, 0, 0),
  (.iconst 1, 1, 0, 1, 0, 0, 0),
  (.goto 4, 3, 232, 0, 0, 0, 0)]
def kX12_solve_231 : List JI := [(.iconst 0, 1, 0, 0, 0, 0, 0)]
def kX12_solve_232 : List JI := [(.istore 4, 2, 4, 0, 0, 0, 0),
  (.iload_n 3, 1, 3, 0, 0, 0, 0),
  (.invokestatic 251, 3, 116, 1, 0, 12, 315),
  (.istore 5, 2, 5, 0, 0, 0, 0),
  (.iload 4, 2, 4, 0, 0, 0, 0),
  (.ifCond .eq 50, 3, 292, 0, 0, 0, 0),
  (.iload 5, 2, 5, 0, 0, 0, 0),
  (.aload_n 0, 1, 0, 0, 0, 0, 0),
  (.getfield 245, 3, 12, 55, 1, 0, 313),
  (.if_icmp .gt 25, 3, 276, 0, 0, 0, 0),
  (.iload 5, 2, 5, 0, 0, 0, 0),
  (.aload_n 0, 1, 0, 0, 0, 0, 0),
  (.getfield 245, 3, 12, 55, 1, 0, 313),
  (.if_icmp .ne 32, 3, 292, 0, 0, 0, 0),
  (.aload_n 0, 1, 0, 0, 0, 0, 0),
  (.getfield 149, 3, 12, 54, 4, 0, 148),
  (.iload_n 3, 1, 3, 0, 0, 0, 0),
  (.iaload, 1, 0, 0, 0, 0, 0),
  (.aload_n 0, 1, 0, 0, 0, 0, 0),
  (.getfield 248, 3, 12, 56, 1, 0, 314),
  (.if_icmp .ge 19, 3, 292, 0, 0, 0, 0)]
def kX12_solve_276 : List JI := [(.aload_n 0, 1, 0, 0, 0, 0, 0),
  (.iload 5, 2, 5, 0, 0, 0, 0),
  (.putfield 245, 3, 12, 55, 1, 0, 313),
  (.aload_n 0, 1, 0, 0, 0, 0, 0),
  (.aload_n 0, 1, 0, 0, 0, 0, 0),
  (.getfield 149, 3, 12, 54, 4, 0, 148),
  (.iload_n 3, 1, 3, 0, 0, 0, 0),
  (.iaload, 1, 0, 0, 0, 0, 0),
  (.putfield 248, 3, 12, 56, 1, 0, 314)]
def kX12_solve_292 : List JI := [(.iinc 3 1, 3, 3, 1, 0, 0, 0),
  (.goto (-85), 3, 210, 0, 0, 0, 0)]
def kX12_solve_298 : List JI := [(.return_, 1, 0, 0, 0, 0, 0)]
theorem qq_X12_solve : ((((jchk 117 0 kX12_solve_0 && jchk 117 2 kX12_solve_2) && (jchk 117 21 kX12_solve_21 && (jchk 117 23 kX12_solve_23 && jchk 117 30 kX12_solve_30))) && ((jchk 117 32 kX12_solve_32 && jchk 117 52 kX12_solve_52) && (jchk 117 56 kX12_solve_56 && (jchk 117 64 kX12_solve_64 && jchk 117 172 kX12_solve_172)))) && (((jchk 117 179 kX12_solve_179 && jchk 117 180 kX12_solve_180) && (jchk 117 186 kX12_solve_186 && (jchk 117 192 kX12_solve_192 && jchk 117 198 kX12_solve_198))) && ((jchk 117 210 kX12_solve_210 && (jchk 117 231 kX12_solve_231 && jchk 117 232 kX12_solve_232)) && (jchk 117 276 kX12_solve_276 && (jchk 117 292 kX12_solve_292 && jchk 117 298 kX12_solve_298))))) = true := by decide +kernel
theorem qX12_solve_0 : jchk 117 0 kX12_solve_0 = true := jb1 (jb1 (jb1 (jb1 (qq_X12_solve))))
theorem qX12_solve_2 : jchk 117 2 kX12_solve_2 = true := jb2 (jb1 (jb1 (jb1 (qq_X12_solve))))
theorem qX12_solve_21 : jchk 117 21 kX12_solve_21 = true := jb1 (jb2 (jb1 (jb1 (qq_X12_solve))))
theorem qX12_solve_23 : jchk 117 23 kX12_solve_23 = true := jb1 (jb2 (jb2 (jb1 (jb1 (qq_X12_solve)))))
theorem qX12_solve_30 : jchk 117 30 kX12_solve_30 = true := jb2 (jb2 (jb2 (jb1 (jb1 (qq_X12_solve)))))
theorem qX12_solve_32 : jchk 117 32 kX12_solve_32 = true := jb1 (jb1 (jb2 (jb1 (qq_X12_solve))))
theorem qX12_solve_52 : jchk 117 52 kX12_solve_52 = true := jb2 (jb1 (jb2 (jb1 (qq_X12_solve))))
theorem qX12_solve_56 : jchk 117 56 kX12_solve_56 = true := jb1 (jb2 (jb2 (jb1 (qq_X12_solve))))
theorem qX12_solve_64 : jchk 117 64 kX12_solve_64 = true := jb1 (jb2 (jb2 (jb2 (jb1 (qq_X12_solve)))))
theorem qX12_solve_172 : jchk 117 172 kX12_solve_172 = true := jb2 (jb2 (jb2 (jb2 (jb1 (qq_X12_solve)))))
theorem qX12_solve_179 : jchk 117 179 kX12_solve_179 = true := jb1 (jb1 (jb1 (jb2 (qq_X12_solve))))
theorem qX12_solve_180 : jchk 117 180 kX12_solve_180 = true := jb2 (jb1 (jb1 (jb2 (qq_X12_solve))))
theorem qX12_solve_186 : jchk 117 186 kX12_solve_186 = true := jb1 (jb2 (jb1 (jb2 (qq_X12_solve))))
theorem qX12_solve_192 : jchk 117 192 kX12_solve_192 = true := jb1 (jb2 (jb2 (jb1 (jb2 (qq_X12_solve)))))
theorem qX12_solve_198 : jchk 117 198 kX12_solve_198 = true := jb2 (jb2 (jb2 (jb1 (jb2 (qq_X12_solve)))))
theorem qX12_solve_210 : jchk 117 210 kX12_solve_210 = true := jb1 (jb1 (jb2 (jb2 (qq_X12_solve))))
theorem qX12_solve_231 : jchk 117 231 kX12_solve_231 = true := jb1 (jb2 (jb1 (jb2 (jb2 (qq_X12_solve)))))
theorem qX12_solve_232 : jchk 117 232 kX12_solve_232 = true := jb2 (jb2 (jb1 (jb2 (jb2 (qq_X12_solve)))))
theorem qX12_solve_276 : jchk 117 276 kX12_solve_276 = true := jb1 (jb2 (jb2 (jb2 (qq_X12_solve))))
theorem qX12_solve_292 : jchk 117 292 kX12_solve_292 = true := jb1 (jb2 (jb2 (jb2 (jb2 (qq_X12_solve)))))
theorem qX12_solve_298 : jchk 117 298 kX12_solve_298 = true := jb2 (jb2 (jb2 (jb2 (jb2 (qq_X12_solve)))))
def kX12_findMatch_0 : List JI := [(.iconst 0, 1, 0, 0, 0, 0, 0),
  (.istore_n 2, 1, 2, 0, 0, 0, 0)]
def kX12_findMatch_2 : List JI := [(.iload_n 2, 1, 2, 0, 0, 0, 0),
  (.bipush 40, 2, 0, 40, 0, 0, 0),
  (.if_icmp .ge 16, 3, 21, 0, 0, 0, 0),
  (.aload_n 0, 1, 0, 0, 0, 0, 0),
  (.getfield 143, 3, 12, 52, 4, 0, 146),
  (.iload_n 2, 1, 2, 0, 0, 0, 0),
  (.iconst 0, 1, 0, 0, 0, 0, 0),
  (.bastore, 1, 0, 0, 0, 0, 0),
  (.iinc 2 1, 3, 2, 1, 0, 0, 0),
  (.goto (-16), 3, 2, 0, 0, 0, 0)]
def kX12_findMatch_21 : List JI := [(.aload_n 0, 1, 0, 0, 0, 0, 0),
  (.iload_n 1, 1, 1, 0, 0, 0, 0),
  (.iconst 0, 1, 0, 0, 0, 0, 0),
  (.invokevirtual 254, 3, 117, 2, 0, 12, 316),
  (.aload_n 0, 1, 0, 0, 0, 0, 0),
  (.aload_n 0, 1, 0, 0, 0, 0, 0),
  (.getfield 245, 3, 12, 55, 1, 0, 313),
  (.putfield 257, 3, 12, 57, 1, 0, 317),
  (.aload_n 0, 1, 0, 0, 0, 0, 0),
  (.aload_n 0, 1, 0, 0, 0, 0, 0),
  (.getfield 248, 3, 12, 56, 1, 0, 314),
  (.putfield 260, 3, 12, 58, 1, 0, 318),
  (.iconst 0, 1, 0, 0, 0, 0, 0),
  (.istore_n 2, 1, 2, 0, 0, 0, 0),
  (.iconst 0, 1, 0, 0, 0, 0, 0),
  (.istore_n 3, 1, 3, 0, 0, 0, 0),
  (.iconst 0, 1, 0, 0, 0, 0, 0),
  (.istore 4, 2, 4, 0, 0, 0, 0)]
def kX12_findMatch_50 : List JI := [(.iload 4, 2, 4, 0, 0, 0, 0),
  (.bipush 6, 2, 0, 6, 0, 0, 0),
  (.if_icmp .ge 181, 3, 235, 0, 0, 0, 0),
  (.aload_n 0, 1, 0, 0, 0, 0, 0),
  (.getfield 146, 3, 12, 53, 4, 0, 147),
  (.iload 4, 2, 4, 0, 0, 0, 0),
  (.bipush (-9), 2, 0, -9, 0, 0, 0),
  (.iastore, 1, 0, 0, 0, 0, 0),
  (.iconst 0, 1, 0, 0, 0, 0, 0),
  (.istore 5, 2, 5, 0, 0, 0, 0)]
def kX12_findMatch_69 : List JI := [(.iload 5, 2, 5, 0, 0, 0, 0),
  (.aload_n 0, 1, 0, 0, 0, 0, 0),
  (.getfield 239, 3, 12, 34, 1, 0, 274),
  (.if_icmp .ge 154, 3, 229, 0, 0, 0, 0),
  (.iload 4, 2, 4, 0, 0, 0, 0),
  (.aload_n 0, 1, 0, 0, 0, 0, 0),
  (.getfield 110, 3, 12, 40, 4, 0, 135),
  (.iload_n 1, 1, 1, 0, 0, 0, 0),
  (.iaload, 1, 0, 0, 0, 0, 0),
  (.if_icmp .ge 143, 3, 229, 0, 0, 0, 0),
  (.aload_n 0, 1, 0, 0, 0, 0, 0),
  (.getfield 146, 3, 12, 53, 4, 0, 147),
  (.iload 4, 2, 4, 0, 0, 0, 0),
  (.iaload, 1, 0, 0, 0, 0, 0),
  (.ifCond .ge 133, 3, 229, 0, 0, 0, 0),
  (.aload_n 0, 1, 0, 0, 0, 0, 0),
  (.getfield 143, 3, 12, 52, 4, 0, 146),
  (.iload 5, 2, 5, 0, 0, 0, 0),
  (.baload, 1, 0, 0, 0, 0, 0),
  (.ifCond .ne 117, 3, 223, 0, 0, 0, 0),
  (.aload_n 0, 1, 0, 0, 0, 0, 0),
  (.iload 5, 2, 5, 0, 0, 0, 0),
  (.bipush 6, 2, 0, 6, 0, 0, 0),
  (.iload_n 1, 1, 1, 0, 0, 0, 0),
  (.imul, 1, 0, 0, 0, 0, 0),
  (.iload 4, 2, 4, 0, 0, 0, 0),
  (.iadd, 1, 0, 0, 0, 0, 0),
  (.invokevirtual 242, 3, 115, 2, 0, 12, 312),
  (.ifCond .eq 101, 3, 223, 0, 0, 0, 0),
  (.aload_n 0, 1, 0, 0, 0, 0, 0),
  (.getfield 101, 3, 12, 37, 4, 0, 132),
  (.iload 5, 2, 5, 0, 0, 0, 0),
  (.iaload, 1, 0, 0, 0, 0, 0),
  (.aload_n 0, 1, 0, 0, 0, 0, 0),
  (.getfield 122, 3, 12, 44, 4, 0, 139),
  (.bipush 6, 2, 0, 6, 0, 0, 0),
  (.iload_n 1, 1, 1, 0, 0, 0, 0),
  (.imul, 1, 0, 0, 0, 0, 0),
  (.iload 4, 2, 4, 0, 0, 0, 0),
  (.iadd, 1, 0, 0, 0, 0, 0),
  (.iaload, 1, 0, 0, 0, 0, 0),
  (.isub, 1, 0, 0, 0, 0, 0),
  (.istore 6, 2, 6, 0, 0, 0, 0),
  (.aload_n 0, 1, 0, 0, 0, 0, 0),
  (.getfield 143, 3, 12, 52, 4, 0, 146),
  (.iload 5, 2, 5, 0, 0, 0, 0),
  (.iconst 1, 1, 0, 1, 0, 0, 0),
  (.bastore, 1, 0, 0, 0, 0, 0),
  (.aload_n 0, 1, 0, 0, 0, 0, 0),
  (.iload_n 1, 1, 1, 0, 0, 0, 0),
  (.iload 4, 2, 4, 0, 0, 0, 0),
  (.iconst 1, 1, 0, 1, 0, 0, 0),
  (.iadd, 1, 0, 0, 0, 0, 0),
  (.invokevirtual 254, 3, 117, 2, 0, 12, 316),
  (.iload_n 2, 1, 2, 0, 0, 0, 0),
  (.iconst 1, 1, 0, 1, 0, 0, 0),
  (.iadd, 1, 0, 0, 0, 0, 0),
  (.aload_n 0, 1, 0, 0, 0, 0, 0),
  (.getfield 245, 3, 12, 55, 1, 0, 313),
  (.iadd, 1, 0, 0, 0, 0, 0),
  (.aload_n 0, 1, 0, 0, 0, 0, 0),
  (.getfield 257, 3, 12, 57, 1, 0, 317),
  (.if_icmp .ne 39, 3, 215, 0, 0, 0, 0),
  (.iload_n 3, 1, 3, 0, 0, 0, 0),
  (.iload 6, 2, 6, 0, 0, 0, 0),
  (.iadd, 1, 0, 0, 0, 0, 0),
  (.aload_n 0, 1, 0, 0, 0, 0, 0),
  (.getfield 248, 3, 12, 56, 1, 0, 314),
  (.iadd, 1, 0, 0, 0, 0, 0),
  (.aload_n 0, 1, 0, 0, 0, 0, 0),
  (.getfield 260, 3, 12, 58, 1, 0, 318),
  (.if_icmp .ne 23, 3, 215, 0, 0, 0, 0),
  (.aload_n 0, 1, 0, 0, 0, 0, 0),
  (.getfield 146, 3, 12, 53, 4, 0, 147),
  (.iload 4, 2, 4, 0, 0, 0, 0),
  (.iload 5, 2, 5, 0, 0, 0, 0),
  (.iastore, 1, 0, 0, 0, 0, 0),
  (.iinc 2 1, 3, 2, 1, 0, 0, 0),
  (.iload_n 3, 1, 3, 0, 0, 0, 0),
  (.iload 6, 2, 6, 0, 0, 0, 0),
  (.iadd, 1, 0, 0, 0, 0, 0),
  (.istore_n 3, 1, 3, 0, 0, 0, 0),
  (.goto 11, 3, 223, 0, 0, 0, 0)]
def kX12_findMatch_215 : List JI := [(.aload_n 0, 1, 0, 0, 0, 0, 0),
  (.getfield 143, 3, 12, 52, 4, 0, 146),
  (.iload 5, 2, 5, 0, 0, 0, 0),
  (.iconst 0, 1, 0, 0, 0, 0, 0),
  (.bastore, 1, 0, 0, 0, 0, 0)]
def kX12_findMatch_223 : List JI := [(.iinc 5 1, 3, 5, 1, 0, 0, 0),
  (.goto (-157), 3, 69, 0, 0, 0, 0)]
def kX12_findMatch_229 : List JI := [(.iinc 4 1, 3, 4, 1, 0, 0, 0),
  (.goto (-182), 3, 50, 0, 0, 0, 0)]
def kX12_findMatch_235 : List JI := [(.return_, 1, 0, 0, 0, 0, 0)]
theorem qq_X12_findMatch : (((jchk 118 0 kX12_findMatch_0 && jchk 118 2 kX12_findMatch_2) && (jchk 118 21 kX12_findMatch_21 && jchk 118 50 kX12_findMatch_50)) && ((jchk 118 69 kX12_findMatch_69 && jchk 118 215 kX12_findMatch_215) && (jchk 118 223 kX12_findMatch_223 && (jchk 118 229 kX12_findMatch_229 && jchk 118 235 kX12_findMatch_235)))) = true := by decide +kernel
theorem qX12_findMatch_0 : jchk 118 0 kX12_findMatch_0 = true := jb1 (jb1 (jb1 (qq_X12_findMatch)))
theorem qX12_findMatch_2 : jchk 118 2 kX12_findMatch_2 = true := jb2 (jb1 (jb1 (qq_X12_findMatch)))
theorem qX12_findMatch_21 : jchk 118 21 kX12_findMatch_21 = true := jb1 (jb2 (jb1 (qq_X12_findMatch)))
theorem qX12_findMatch_50 : jchk 118 50 kX12_findMatch_50 = true := jb2 (jb2 (jb1 (qq_X12_findMatch)))
theorem qX12_findMatch_69 : jchk 118 69 kX12_findMatch_69 = true := jb1 (jb1 (jb2 (qq_X12_findMatch)))
theorem qX12_findMatch_215 : jchk 118 215 kX12_findMatch_215 = true := jb2 (jb1 (jb2 (qq_X12_findMatch)))
theorem qX12_findMatch_223 : jchk 118 223 kX12_findMatch_223 = true := jb1 (jb2 (jb2 (qq_X12_findMatch)))
theorem qX12_findMatch_229 : jchk 118 229 kX12_findMatch_229 = true := jb1 (jb2 (jb2 (jb2 (qq_X12_findMatch))))
theorem qX12_findMatch_235 : jchk 118 235 kX12_findMatch_235 = true := jb2 (jb2 (jb2 (jb2 (qq_X12_findMatch))))
def kX12_match_0 : List JI := [(.iload_n 1, 1, 1, 0, 0, 0, 0),
  (.iconst 0, 1, 0, 0, 0, 0, 0),
  (.iconst 2, 1, 0, 2, 0, 0, 0),
  (.invokestatic 168, 3, 19, 3, 0, 12, 162),
  (.ifCond .ne 9, 3, 15, 0, 0, 0, 0),
  (.aload_n 0, 1, 0, 0, 0, 0, 0),
  (.iconst (-1), 1, 0, -1, 0, 0, 0),
  (.invokevirtual 172, 3, 20, 1, 0, 12, 163),
  (.ireturn, 1, 0, 0, 0, 0, 0)]
def kX12_match_15 : List JI := [(.iload_n 2, 1, 2, 0, 0, 0, 0),
  (.iconst 0, 1, 0, 0, 0, 0, 0),
  (.iconst 1, 1, 0, 1, 0, 0, 0),
  (.aload_n 0, 1, 0, 0, 0, 0, 0),
  (.getfield 110, 3, 12, 40, 4, 0, 135),
  (.iload_n 1, 1, 1, 0, 0, 0, 0),
  (.iaload, 1, 0, 0, 0, 0, 0),
  (.iadd, 1, 0, 0, 0, 0, 0),
  (.invokestatic 168, 3, 19, 3, 0, 12, 162),
  (.ifCond .ne 10, 3, 38, 0, 0, 0, 0),
  (.aload_n 0, 1, 0, 0, 0, 0, 0),
  (.bipush (-2), 2, 0, -2, 0, 0, 0),
  (.invokevirtual 172, 3, 20, 1, 0, 12, 163),
  (.ireturn, 1, 0, 0, 0, 0, 0)]
def kX12_match_38 : List JI := [(.aload_n 0, 1, 0, 0, 0, 0, 0),
  (.iload_n 1, 1, 1, 0, 0, 0, 0),
  (.invokevirtual 263, 3, 118, 1, 0, 12, 319),
  (.iload_n 2, 1, 2, 0, 0, 0, 0),
  (.ifCond .ne 10, 3, 54, 0, 0, 0, 0),
  (.aload_n 0, 1, 0, 0, 0, 0, 0),
  (.getfield 257, 3, 12, 57, 1, 0, 317),
  (.goto 23, 3, 74, 0, 0, 0, 0)]
def kX12_match_54 : List JI := [(.iload_n 2, 1, 2, 0, 0, 0, 0),
  (.iconst 1, 1, 0, 1, 0, 0, 0),
  (.if_icmp .ne 10, 3, 66, 0, 0, 0, 0),
  (.aload_n 0, 1, 0, 0, 0, 0, 0),
  (.getfield 260, 3, 12, 58, 1, 0, 318),
  (.goto 11, 3, 74, 0, 0, 0, 0)]
def kX12_match_66 : List JI := [(.aload_n 0, 1, 0, 0, 0, 0, 0),
  (.getfield 146, 3, 12, 53, 4, 0, 147),
  (.iload_n 2, 1, 2, 0, 0, 0, 0),
  (.iconst 2, 1, 0, 2, 0, 0, 0),
  (.isub, 1, 0, 0, 0, 0, 0),
  (.iaload, 1, 0, 0, 0, 0, 0)]
def kX12_match_74 : List JI := [(.ireturn, 1, 0, 0, 0, 0, 0)]
theorem qq_X12_match : ((jchk 119 0 kX12_match_0 && (jchk 119 15 kX12_match_15 && jchk 119 38 kX12_match_38)) && (jchk 119 54 kX12_match_54 && (jchk 119 66 kX12_match_66 && jchk 119 74 kX12_match_74))) = true := by decide +kernel
theorem qX12_match_0 : jchk 119 0 kX12_match_0 = true := jb1 (jb1 (qq_X12_match))
theorem qX12_match_15 : jchk 119 15 kX12_match_15 = true := jb1 (jb2 (jb1 (qq_X12_match)))
theorem qX12_match_38 : jchk 119 38 kX12_match_38 = true := jb2 (jb2 (jb1 (qq_X12_match)))
theorem qX12_match_54 : jchk 119 54 kX12_match_54 = true := jb1 (jb2 (qq_X12_match))
theorem qX12_match_66 : jchk 119 66 kX12_match_66 = true := jb1 (jb2 (jb2 (qq_X12_match)))
theorem qX12_match_74 : jchk 119 74 kX12_match_74 = true := jb2 (jb2 (jb2 (qq_X12_match)))
def kX3_fellFor_0 : List JI := [(.aload_n 0, 1, 0, 0, 0, 0, 0),
  (.getfield 21, 3, 3, 4, 4, 0, 35),
  (.iload_n 1, 1, 1, 0, 0, 0, 0),
  (.iload_n 2, 1, 2, 0, 0, 0, 0),
  (.iastore, 1, 0, 0, 0, 0, 0),
  (.aload_n 0, 1, 0, 0, 0, 0, 0),
  (.getfield 24, 3, 3, 5, 4, 0, 36),
  (.iload_n 1, 1, 1, 0, 0, 0, 0),
  (.iload_n 3, 1, 3, 0, 0, 0, 0),
  (.iastore, 1, 0, 0, 0, 0, 0),
  (.return_, 1, 0, 0, 0, 0, 0)]
theorem qX3_fellFor_0 : jchk 120 0 kX3_fellFor_0 = true := by decide +kernel
def kX11_fell_0 : List JI := [(.aload_n 0, 1, 0, 0, 0, 0, 0),
  (.iload_n 1, 1, 1, 0, 0, 0, 0),
  (.invokevirtual 188, 3, 60, 1, 0, 11, 210),
  (.ifCond .ne 7, 3, 12, 0, 0, 0, 0),
  (.iconst (-1), 1, 0, -1, 0, 0, 0),
  (.goto 39, 3, 48, 0, 0, 0, 0)]
def kX11_fell_12 : List JI := [(.aload_n 0, 1, 0, 0, 0, 0, 0),
  (.getfield 37, 3, 11, 5, 4, 0, 82),
  (.getfield 191, 3, 10, 3, 4, 0, 211),
  (.iload_n 1, 1, 1, 0, 0, 0, 0),
  (.aaload, 1, 0, 0, 0, 0, 0),
  (.invokevirtual 195, 3, 61, 0, 0, 4, 212),
  (.ifCond .eq 18, 3, 42, 0, 0, 0, 0),
  (.aload_n 0, 1, 0, 0, 0, 0, 0),
  (.getfield 37, 3, 11, 5, 4, 0, 82),
  (.getfield 191, 3, 10, 3, 4, 0, 211),
  (.iload_n 1, 1, 1, 0, 0, 0, 0),
  (.aaload, 1, 0, 0, 0, 0, 0),
  (.getfield 260, 3, 4, 10, 3, 0, 320),
  (.ifCond .eq 8, 3, 47, 0, 0, 0, 0)]
def kX11_fell_42 : List JI := [(.bipush (-3), 2, 0, -3, 0, 0, 0),
  (.goto 4, 3, 48, 0, 0, 0, 0)]
def kX11_fell_47 : List JI := [(.iconst 0, 1, 0, 0, 0, 0, 0)]
def kX11_fell_48 : List JI := [(.istore_n 2, 1, 2, 0, 0, 0, 0),
  (.iload_n 2, 1, 2, 0, 0, 0, 0),
  (.ifCond .eq 9, 3, 59, 0, 0, 0, 0),
  (.aload_n 0, 1, 0, 0, 0, 0, 0),
  (.iload_n 2, 1, 2, 0, 0, 0, 0),
  (.invokevirtual 93, 3, 16, 1, 0, 11, 159),
  (.ireturn, 1, 0, 0, 0, 0, 0)]
def kX11_fell_59 : List JI := [(.aload_n 0, 1, 0, 0, 0, 0, 0),
  (.getfield 37, 3, 11, 5, 4, 0, 82),
  (.getfield 191, 3, 10, 3, 4, 0, 211),
  (.iload_n 1, 1, 1, 0, 0, 0, 0),
  (.aaload, 1, 0, 0, 0, 0, 0),
  (.iconst 1, 1, 0, 1, 0, 0, 0),
  (.putfield 260, 3, 4, 10, 3, 0, 320),
  (.aload_n 0, 1, 0, 0, 0, 0, 0),
  (.getfield 37, 3, 11, 5, 4, 0, 82),
  (.getfield 191, 3, 10, 3, 4, 0, 211),
  (.iload_n 1, 1, 1, 0, 0, 0, 0),
  (.aaload, 1, 0, 0, 0, 0, 0),
  (.getfield 264, 3, 4, 0, 1, 0, 321),
  (.istore_n 3, 1, 3, 0, 0, 0, 0),
  (.aload_n 0, 1, 0, 0, 0, 0, 0),
  (.getfield 58, 3, 11, 8, 4, 0, 91),
  (.aload_n 0, 1, 0, 0, 0, 0, 0),
  (.getfield 44, 3, 11, 6, 4, 0, 85),
  (.aload_n 0, 1, 0, 0, 0, 0, 0),
  (.getfield 51, 3, 11, 7, 4, 0, 88),
  (.iload_n 3, 1, 3, 0, 0, 0, 0),
  (.invokevirtual 247, 3, 113, 3, 0, 6, 308),
  (.iconst 0, 1, 0, 0, 0, 0, 0),
  (.istore 4, 2, 4, 0, 0, 0, 0)]
def kX11_fell_104 : List JI := [(.iload 4, 2, 4, 0, 0, 0, 0),
  (.aload_n 0, 1, 0, 0, 0, 0, 0),
  (.getfield 51, 3, 11, 7, 4, 0, 88),
  (.getfield 240, 3, 8, 0, 4, 0, 280),
  (.iload_n 3, 1, 3, 0, 0, 0, 0),
  (.iaload, 1, 0, 0, 0, 0, 0),
  (.if_icmp .ge 44, 3, 159, 0, 0, 0, 0),
  (.aload_n 0, 1, 0, 0, 0, 0, 0),
  (.getfield 58, 3, 11, 8, 4, 0, 91),
  (.getfield 257, 3, 6, 2, 4, 0, 311),
  (.iload 4, 2, 4, 0, 0, 0, 0),
  (.iaload, 1, 0, 0, 0, 0, 0),
  (.bipush (-9), 2, 0, -9, 0, 0, 0),
  (.if_icmp .eq 23, 3, 153, 0, 0, 0, 0),
  (.aload_n 0, 1, 0, 0, 0, 0, 0),
  (.getfield 44, 3, 11, 6, 4, 0, 85),
  (.aload_n 0, 1, 0, 0, 0, 0, 0),
  (.getfield 58, 3, 11, 8, 4, 0, 91),
  (.getfield 257, 3, 6, 2, 4, 0, 311),
  (.iload 4, 2, 4, 0, 0, 0, 0),
  (.iaload, 1, 0, 0, 0, 0, 0),
  (.iload_n 1, 1, 1, 0, 0, 0, 0),
  (.iload 4, 2, 4, 0, 0, 0, 0),
  (.invokevirtual 267, 3, 120, 3, 0, 3, 322)]
def kX11_fell_153 : List JI := [(.iinc 4 1, 3, 4, 1, 0, 0, 0),
  (.goto (-52), 3, 104, 0, 0, 0, 0)]
def kX11_fell_159 : List JI := [(.aload_n 0, 1, 0, 0, 0, 0, 0),
  (.getfield 58, 3, 11, 8, 4, 0, 91),
  (.getfield 251, 3, 6, 0, 1, 0, 309),
  (.ireturn, 1, 0, 0, 0, 0, 0)]
theorem qq_X11_fell : (((jchk 121 0 kX11_fell_0 && jchk 121 12 kX11_fell_12) && (jchk 121 42 kX11_fell_42 && jchk 121 47 kX11_fell_47)) && ((jchk 121 48 kX11_fell_48 && jchk 121 59 kX11_fell_59) && (jchk 121 104 kX11_fell_104 && (jchk 121 153 kX11_fell_153 && jchk 121 159 kX11_fell_159)))) = true := by decide +kernel
theorem qX11_fell_0 : jchk 121 0 kX11_fell_0 = true := jb1 (jb1 (jb1 (qq_X11_fell)))
theorem qX11_fell_12 : jchk 121 12 kX11_fell_12 = true := jb2 (jb1 (jb1 (qq_X11_fell)))
theorem qX11_fell_42 : jchk 121 42 kX11_fell_42 = true := jb1 (jb2 (jb1 (qq_X11_fell)))
theorem qX11_fell_47 : jchk 121 47 kX11_fell_47 = true := jb2 (jb2 (jb1 (qq_X11_fell)))
theorem qX11_fell_48 : jchk 121 48 kX11_fell_48 = true := jb1 (jb1 (jb2 (qq_X11_fell)))
theorem qX11_fell_59 : jchk 121 59 kX11_fell_59 = true := jb2 (jb1 (jb2 (qq_X11_fell)))
theorem qX11_fell_104 : jchk 121 104 kX11_fell_104 = true := jb1 (jb2 (jb2 (qq_X11_fell)))
theorem qX11_fell_153 : jchk 121 153 kX11_fell_153 = true := jb1 (jb2 (jb2 (jb2 (qq_X11_fell))))
theorem qX11_fell_159 : jchk 121 159 kX11_fell_159 = true := jb2 (jb2 (jb2 (jb2 (qq_X11_fell))))
def kX12_fell_0 : List JI := [(.aload_n 0, 1, 0, 0, 0, 0, 0),
  (.iload_n 1, 1, 1, 0, 0, 0, 0),
  (.invokevirtual 198, 3, 63, 1, 0, 12, 214),
  (.ifCond .ne 9, 3, 14, 0, 0, 0, 0),
  (.aload_n 0, 1, 0, 0, 0, 0, 0),
  (.iconst (-1), 1, 0, -1, 0, 0, 0),
  (.invokevirtual 172, 3, 20, 1, 0, 12, 163),
  (.ireturn, 1, 0, 0, 0, 0, 0)]
def kX12_fell_14 : List JI := [(.aload_n 0, 1, 0, 0, 0, 0, 0),
  (.getfield 55, 3, 12, 18, 4, 0, 117),
  (.iload_n 1, 1, 1, 0, 0, 0, 0),
  (.iaload, 1, 0, 0, 0, 0, 0),
  (.iconst 1, 1, 0, 1, 0, 0, 0),
  (.if_icmp .gt 12, 3, 33, 0, 0, 0, 0),
  (.aload_n 0, 1, 0, 0, 0, 0, 0),
  (.getfield 83, 3, 12, 27, 4, 0, 126),
  (.iload_n 1, 1, 1, 0, 0, 0, 0),
  (.baload, 1, 0, 0, 0, 0, 0),
  (.ifCond .eq 10, 3, 40, 0, 0, 0, 0)]
def kX12_fell_33 : List JI := [(.aload_n 0, 1, 0, 0, 0, 0, 0),
  (.bipush (-3), 2, 0, -3, 0, 0, 0),
  (.invokevirtual 172, 3, 20, 1, 0, 12, 163),
  (.ireturn, 1, 0, 0, 0, 0, 0)]
def kX12_fell_40 : List JI := [(.aload_n 0, 1, 0, 0, 0, 0, 0),
  (.aload_n 0, 1, 0, 0, 0, 0, 0),
  (.getfield 46, 3, 12, 15, 4, 0, 114),
  (.iload_n 1, 1, 1, 0, 0, 0, 0),
  (.iaload, 1, 0, 0, 0, 0, 0),
  (.invokevirtual 263, 3, 118, 1, 0, 12, 319),
  (.aload_n 0, 1, 0, 0, 0, 0, 0),
  (.getfield 83, 3, 12, 27, 4, 0, 126),
  (.iload_n 1, 1, 1, 0, 0, 0, 0),
  (.iconst 1, 1, 0, 1, 0, 0, 0),
  (.bastore, 1, 0, 0, 0, 0, 0),
  (.iconst 0, 1, 0, 0, 0, 0, 0),
  (.istore_n 2, 1, 2, 0, 0, 0, 0)]
def kX12_fell_59 : List JI := [(.iload_n 2, 1, 2, 0, 0, 0, 0),
  (.bipush 6, 2, 0, 6, 0, 0, 0),
  (.if_icmp .ge 42, 3, 104, 0, 0, 0, 0),
  (.aload_n 0, 1, 0, 0, 0, 0, 0),
  (.getfield 146, 3, 12, 53, 4, 0, 147),
  (.iload_n 2, 1, 2, 0, 0, 0, 0),
  (.iaload, 1, 0, 0, 0, 0, 0),
  (.ifCond .lt 27, 3, 98, 0, 0, 0, 0),
  (.aload_n 0, 1, 0, 0, 0, 0, 0),
  (.getfield 104, 3, 12, 38, 4, 0, 133),
  (.aload_n 0, 1, 0, 0, 0, 0, 0),
  (.getfield 146, 3, 12, 53, 4, 0, 147),
  (.iload_n 2, 1, 2, 0, 0, 0, 0),
  (.iaload, 1, 0, 0, 0, 0, 0),
  (.iload_n 1, 1, 1, 0, 0, 0, 0),
  (.iastore, 1, 0, 0, 0, 0, 0),
  (.aload_n 0, 1, 0, 0, 0, 0, 0),
  (.getfield 107, 3, 12, 39, 4, 0, 134),
  (.aload_n 0, 1, 0, 0, 0, 0, 0),
  (.getfield 146, 3, 12, 53, 4, 0, 147),
  (.iload_n 2, 1, 2, 0, 0, 0, 0),
  (.iaload, 1, 0, 0, 0, 0, 0),
  (.iload_n 2, 1, 2, 0, 0, 0, 0),
  (.iastore, 1, 0, 0, 0, 0, 0)]
def kX12_fell_98 : List JI := [(.iinc 2 1, 3, 2, 1, 0, 0, 0),
  (.goto (-42), 3, 59, 0, 0, 0, 0)]
def kX12_fell_104 : List JI := [(.aload_n 0, 1, 0, 0, 0, 0, 0),
  (.getfield 257, 3, 12, 57, 1, 0, 317),
  (.ireturn, 1, 0, 0, 0, 0, 0)]
theorem qq_X12_fell : ((jchk 122 0 kX12_fell_0 && (jchk 122 14 kX12_fell_14 && jchk 122 33 kX12_fell_33)) && ((jchk 122 40 kX12_fell_40 && jchk 122 59 kX12_fell_59) && (jchk 122 98 kX12_fell_98 && jchk 122 104 kX12_fell_104))) = true := by decide +kernel
theorem qX12_fell_0 : jchk 122 0 kX12_fell_0 = true := jb1 (jb1 (qq_X12_fell))
theorem qX12_fell_14 : jchk 122 14 kX12_fell_14 = true := jb1 (jb2 (jb1 (qq_X12_fell)))
theorem qX12_fell_33 : jchk 122 33 kX12_fell_33 = true := jb2 (jb2 (jb1 (qq_X12_fell)))
theorem qX12_fell_40 : jchk 122 40 kX12_fell_40 = true := jb1 (jb1 (jb2 (qq_X12_fell)))
theorem qX12_fell_59 : jchk 122 59 kX12_fell_59 = true := jb2 (jb1 (jb2 (qq_X12_fell)))
theorem qX12_fell_98 : jchk 122 98 kX12_fell_98 = true := jb1 (jb2 (jb2 (qq_X12_fell)))
theorem qX12_fell_104 : jchk 122 104 kX12_fell_104 = true := jb2 (jb2 (jb2 (qq_X12_fell)))
def kX3_felledFor_0 : List JI := [(.iconst 0, 1, 0, 0, 0, 0, 0),
  (.istore_n 3, 1, 3, 0, 0, 0, 0)]
def kX3_felledFor_2 : List JI := [(.iload_n 3, 1, 3, 0, 0, 0, 0),
  (.aload_n 0, 1, 0, 0, 0, 0, 0),
  (.getfield 30, 3, 3, 0, 1, 0, 257),
  (.if_icmp .ge 31, 3, 38, 0, 0, 0, 0),
  (.aload_n 0, 1, 0, 0, 0, 0, 0),
  (.getfield 21, 3, 3, 4, 4, 0, 35),
  (.iload_n 3, 1, 3, 0, 0, 0, 0),
  (.iaload, 1, 0, 0, 0, 0, 0),
  (.iload_n 1, 1, 1, 0, 0, 0, 0),
  (.if_icmp .ne 15, 3, 32, 0, 0, 0, 0),
  (.aload_n 0, 1, 0, 0, 0, 0, 0),
  (.getfield 24, 3, 3, 5, 4, 0, 36),
  (.iload_n 3, 1, 3, 0, 0, 0, 0),
  (.iaload, 1, 0, 0, 0, 0, 0),
  (.iload_n 2, 1, 2, 0, 0, 0, 0),
  (.if_icmp .ne 5, 3, 32, 0, 0, 0, 0),
  (.iload_n 3, 1, 3, 0, 0, 0, 0),
  (.ireturn, 1, 0, 0, 0, 0, 0)]
def kX3_felledFor_32 : List JI := [(.iinc 3 1, 3, 3, 1, 0, 0, 0),
  (.goto (-33), 3, 2, 0, 0, 0, 0)]
def kX3_felledFor_38 : List JI := [(.bipush (-9), 2, 0, -9, 0, 0, 0),
  (.ireturn, 1, 0, 0, 0, 0, 0)]
theorem qq_X3_felledFor : ((jchk 123 0 kX3_felledFor_0 && jchk 123 2 kX3_felledFor_2) && (jchk 123 32 kX3_felledFor_32 && jchk 123 38 kX3_felledFor_38)) = true := by decide +kernel
theorem qX3_felledFor_0 : jchk 123 0 kX3_felledFor_0 = true := jb1 (jb1 (qq_X3_felledFor))
theorem qX3_felledFor_2 : jchk 123 2 kX3_felledFor_2 = true := jb2 (jb1 (qq_X3_felledFor))
theorem qX3_felledFor_32 : jchk 123 32 kX3_felledFor_32 = true := jb1 (jb2 (qq_X3_felledFor))
theorem qX3_felledFor_38 : jchk 123 38 kX3_felledFor_38 = true := jb2 (jb2 (qq_X3_felledFor))
def kX11_treeFor_0 : List JI := [(.aload_n 0, 1, 0, 0, 0, 0, 0),
  (.iload_n 1, 1, 1, 0, 0, 0, 0),
  (.invokevirtual 188, 3, 60, 1, 0, 11, 210),
  (.ifCond .ne 7, 3, 12, 0, 0, 0, 0),
  (.iconst (-1), 1, 0, -1, 0, 0, 0),
  (.goto 9, 3, 18, 0, 0, 0, 0)]
def kX11_treeFor_12 : List JI := [(.iload_n 2, 1, 2, 0, 0, 0, 0),
  (.iconst 0, 1, 0, 0, 0, 0, 0),
  (.iconst 5, 1, 0, 5, 0, 0, 0),
  (.invokestatic 89, 3, 15, 3, 0, 11, 158)]
def kX11_treeFor_18 : List JI := [(.istore_n 3, 1, 3, 0, 0, 0, 0),
  (.iload_n 3, 1, 3, 0, 0, 0, 0),
  (.ifCond .eq 11, 3, 31, 0, 0, 0, 0),
  (.aload_n 0, 1, 0, 0, 0, 0, 0),
  (.iload_n 3, 1, 3, 0, 0, 0, 0),
  (.invokevirtual 93, 3, 16, 1, 0, 11, 159),
  (.goto 12, 3, 40, 0, 0, 0, 0)]
def kX11_treeFor_31 : List JI := [(.aload_n 0, 1, 0, 0, 0, 0, 0),
  (.getfield 44, 3, 11, 6, 4, 0, 85),
  (.iload_n 1, 1, 1, 0, 0, 0, 0),
  (.iload_n 2, 1, 2, 0, 0, 0, 0),
  (.invokevirtual 270, 3, 123, 2, 0, 3, 323)]
def kX11_treeFor_40 : List JI := [(.ireturn, 1, 0, 0, 0, 0, 0)]
theorem qq_X11_treeFor : ((jchk 124 0 kX11_treeFor_0 && jchk 124 12 kX11_treeFor_12) && (jchk 124 18 kX11_treeFor_18 && (jchk 124 31 kX11_treeFor_31 && jchk 124 40 kX11_treeFor_40))) = true := by decide +kernel
theorem qX11_treeFor_0 : jchk 124 0 kX11_treeFor_0 = true := jb1 (jb1 (qq_X11_treeFor))
theorem qX11_treeFor_12 : jchk 124 12 kX11_treeFor_12 = true := jb2 (jb1 (qq_X11_treeFor))
theorem qX11_treeFor_18 : jchk 124 18 kX11_treeFor_18 = true := jb1 (jb2 (qq_X11_treeFor))
theorem qX11_treeFor_31 : jchk 124 31 kX11_treeFor_31 = true := jb1 (jb2 (jb2 (qq_X11_treeFor)))
theorem qX11_treeFor_40 : jchk 124 40 kX11_treeFor_40 = true := jb2 (jb2 (jb2 (qq_X11_treeFor)))
def kX12_treeFor_0 : List JI := [(.aload_n 0, 1, 0, 0, 0, 0, 0),
  (.iload_n 1, 1, 1, 0, 0, 0, 0),
  (.invokevirtual 198, 3, 63, 1, 0, 12, 214),
  (.ifCond .ne 9, 3, 14, 0, 0, 0, 0),
  (.aload_n 0, 1, 0, 0, 0, 0, 0),
  (.iconst (-1), 1, 0, -1, 0, 0, 0),
  (.invokevirtual 172, 3, 20, 1, 0, 12, 163),
  (.ireturn, 1, 0, 0, 0, 0, 0)]
def kX12_treeFor_14 : List JI := [(.iload_n 2, 1, 2, 0, 0, 0, 0),
  (.ifCond .ge 10, 3, 25, 0, 0, 0, 0),
  (.aload_n 0, 1, 0, 0, 0, 0, 0),
  (.bipush (-4), 2, 0, -4, 0, 0, 0),
  (.invokevirtual 172, 3, 20, 1, 0, 12, 163),
  (.ireturn, 1, 0, 0, 0, 0, 0)]
def kX12_treeFor_25 : List JI := [(.iload_n 2, 1, 2, 0, 0, 0, 0),
  (.iconst 5, 1, 0, 5, 0, 0, 0),
  (.if_icmp .le 10, 3, 37, 0, 0, 0, 0),
  (.aload_n 0, 1, 0, 0, 0, 0, 0),
  (.bipush (-6), 2, 0, -6, 0, 0, 0),
  (.invokevirtual 172, 3, 20, 1, 0, 12, 163),
  (.ireturn, 1, 0, 0, 0, 0, 0)]
def kX12_treeFor_37 : List JI := [(.iconst 0, 1, 0, 0, 0, 0, 0),
  (.istore_n 3, 1, 3, 0, 0, 0, 0)]
def kX12_treeFor_39 : List JI := [(.iload_n 3, 1, 3, 0, 0, 0, 0),
  (.aload_n 0, 1, 0, 0, 0, 0, 0),
  (.getfield 239, 3, 12, 34, 1, 0, 274),
  (.if_icmp .ge 31, 3, 75, 0, 0, 0, 0),
  (.aload_n 0, 1, 0, 0, 0, 0, 0),
  (.getfield 104, 3, 12, 38, 4, 0, 133),
  (.iload_n 3, 1, 3, 0, 0, 0, 0),
  (.iaload, 1, 0, 0, 0, 0, 0),
  (.iload_n 1, 1, 1, 0, 0, 0, 0),
  (.if_icmp .ne 15, 3, 69, 0, 0, 0, 0),
  (.aload_n 0, 1, 0, 0, 0, 0, 0),
  (.getfield 107, 3, 12, 39, 4, 0, 134),
  (.iload_n 3, 1, 3, 0, 0, 0, 0),
  (.iaload, 1, 0, 0, 0, 0, 0),
  (.iload_n 2, 1, 2, 0, 0, 0, 0),
  (.if_icmp .ne 5, 3, 69, 0, 0, 0, 0),
  (.iload_n 3, 1, 3, 0, 0, 0, 0),
  (.ireturn, 1, 0, 0, 0, 0, 0)]
def kX12_treeFor_69 : List JI := [(.iinc 3 1, 3, 3, 1, 0, 0, 0),
  (.goto (-33), 3, 39, 0, 0, 0, 0)]
def kX12_treeFor_75 : List JI := [(.bipush (-9), 2, 0, -9, 0, 0, 0),
  (.ireturn, 1, 0, 0, 0, 0, 0)]
theorem qq_X12_treeFor : ((jchk 125 0 kX12_treeFor_0 && (jchk 125 14 kX12_treeFor_14 && jchk 125 25 kX12_treeFor_25)) && ((jchk 125 37 kX12_treeFor_37 && jchk 125 39 kX12_treeFor_39) && (jchk 125 69 kX12_treeFor_69 && jchk 125 75 kX12_treeFor_75))) = true := by decide +kernel
theorem qX12_treeFor_0 : jchk 125 0 kX12_treeFor_0 = true := jb1 (jb1 (qq_X12_treeFor))
theorem qX12_treeFor_14 : jchk 125 14 kX12_treeFor_14 = true := jb1 (jb2 (jb1 (qq_X12_treeFor)))
theorem qX12_treeFor_25 : jchk 125 25 kX12_treeFor_25 = true := jb2 (jb2 (jb1 (qq_X12_treeFor)))
theorem qX12_treeFor_37 : jchk 125 37 kX12_treeFor_37 = true := jb1 (jb1 (jb2 (qq_X12_treeFor)))
theorem qX12_treeFor_39 : jchk 125 39 kX12_treeFor_39 = true := jb2 (jb1 (jb2 (qq_X12_treeFor)))
theorem qX12_treeFor_69 : jchk 125 69 kX12_treeFor_69 = true := jb1 (jb2 (jb2 (qq_X12_treeFor)))
theorem qX12_treeFor_75 : jchk 125 75 kX12_treeFor_75 = true := jb2 (jb2 (jb2 (qq_X12_treeFor)))
def kX11_treeOf_0 : List JI := [(.iload_n 1, 1, 1, 0, 0, 0, 0),
  (.aload_n 0, 1, 0, 0, 0, 0, 0),
  (.getfield 44, 3, 11, 6, 4, 0, 85),
  (.getfield 236, 3, 3, 0, 1, 0, 278),
  (.invokestatic 85, 3, 14, 2, 0, 11, 157),
  (.ifCond .ne 9, 3, 20, 0, 0, 0, 0),
  (.aload_n 0, 1, 0, 0, 0, 0, 0),
  (.iconst (-1), 1, 0, -1, 0, 0, 0),
  (.invokevirtual 134, 3, 34, 1, 0, 11, 174),
  (.ireturn, 1, 0, 0, 0, 0, 0)]
def kX11_treeOf_20 : List JI := [(.iload_n 2, 1, 2, 0, 0, 0, 0),
  (.tableswitch 85 0 4 #[35, 45, 55, 65, 75], 35, 0, 0, 0, 0, 0)]
def kX11_treeOf_56 : List JI := [(.aload_n 0, 1, 0, 0, 0, 0, 0),
  (.getfield 44, 3, 11, 6, 4, 0, 85),
  (.getfield 273, 3, 3, 1, 4, 0, 324),
  (.iload_n 1, 1, 1, 0, 0, 0, 0),
  (.iaload, 1, 0, 0, 0, 0, 0),
  (.ireturn, 1, 0, 0, 0, 0, 0)]
def kX11_treeOf_66 : List JI := [(.aload_n 0, 1, 0, 0, 0, 0, 0),
  (.getfield 44, 3, 11, 6, 4, 0, 85),
  (.getfield 276, 3, 3, 3, 4, 0, 325),
  (.iload_n 1, 1, 1, 0, 0, 0, 0),
  (.iaload, 1, 0, 0, 0, 0, 0),
  (.ireturn, 1, 0, 0, 0, 0, 0)]
def kX11_treeOf_76 : List JI := [(.aload_n 0, 1, 0, 0, 0, 0, 0),
  (.getfield 44, 3, 11, 6, 4, 0, 85),
  (.getfield 279, 3, 3, 4, 4, 0, 326),
  (.iload_n 1, 1, 1, 0, 0, 0, 0),
  (.iaload, 1, 0, 0, 0, 0, 0),
  (.ireturn, 1, 0, 0, 0, 0, 0)]
def kX11_treeOf_86 : List JI := [(.aload_n 0, 1, 0, 0, 0, 0, 0),
  (.getfield 44, 3, 11, 6, 4, 0, 85),
  (.getfield 281, 3, 3, 5, 4, 0, 327),
  (.iload_n 1, 1, 1, 0, 0, 0, 0),
  (.iaload, 1, 0, 0, 0, 0, 0),
  (.ireturn, 1, 0, 0, 0, 0, 0)]
def kX11_treeOf_96 : List JI := [(.aload_n 0, 1, 0, 0, 0, 0, 0),
  (.getfield 44, 3, 11, 6, 4, 0, 85),
  (.getfield 284, 3, 3, 2, 4, 0, 328),
  (.iload_n 1, 1, 1, 0, 0, 0, 0),
  (.iaload, 1, 0, 0, 0, 0, 0),
  (.ireturn, 1, 0, 0, 0, 0, 0)]
def kX11_treeOf_106 : List JI := [(.aload_n 0, 1, 0, 0, 0, 0, 0),
  (.bipush (-2), 2, 0, -2, 0, 0, 0),
  (.invokevirtual 134, 3, 34, 1, 0, 11, 174),
  (.ireturn, 1, 0, 0, 0, 0, 0)]
theorem qq_X11_treeOf : (((jchk 126 0 kX11_treeOf_0 && jchk 126 20 kX11_treeOf_20) && (jchk 126 56 kX11_treeOf_56 && jchk 126 66 kX11_treeOf_66)) && ((jchk 126 76 kX11_treeOf_76 && jchk 126 86 kX11_treeOf_86) && (jchk 126 96 kX11_treeOf_96 && jchk 126 106 kX11_treeOf_106))) = true := by decide +kernel
theorem qX11_treeOf_0 : jchk 126 0 kX11_treeOf_0 = true := jb1 (jb1 (jb1 (qq_X11_treeOf)))
theorem qX11_treeOf_20 : jchk 126 20 kX11_treeOf_20 = true := jb2 (jb1 (jb1 (qq_X11_treeOf)))
theorem qX11_treeOf_56 : jchk 126 56 kX11_treeOf_56 = true := jb1 (jb2 (jb1 (qq_X11_treeOf)))
theorem qX11_treeOf_66 : jchk 126 66 kX11_treeOf_66 = true := jb2 (jb2 (jb1 (qq_X11_treeOf)))
theorem qX11_treeOf_76 : jchk 126 76 kX11_treeOf_76 = true := jb1 (jb1 (jb2 (qq_X11_treeOf)))
theorem qX11_treeOf_86 : jchk 126 86 kX11_treeOf_86 = true := jb2 (jb1 (jb2 (qq_X11_treeOf)))
theorem qX11_treeOf_96 : jchk 126 96 kX11_treeOf_96 = true := jb1 (jb2 (jb2 (qq_X11_treeOf)))
theorem qX11_treeOf_106 : jchk 126 106 kX11_treeOf_106 = true := jb2 (jb2 (jb2 (qq_X11_treeOf)))
def kX12_treeOf_0 : List JI := [(.iload_n 1, 1, 1, 0, 0, 0, 0),
  (.iconst 0, 1, 0, 0, 0, 0, 0),
  (.aload_n 0, 1, 0, 0, 0, 0, 0),
  (.getfield 239, 3, 12, 34, 1, 0, 274),
  (.iconst 1, 1, 0, 1, 0, 0, 0),
  (.isub, 1, 0, 0, 0, 0, 0),
  (.invokestatic 168, 3, 19, 3, 0, 12, 162),
  (.ifCond .ne 9, 3, 20, 0, 0, 0, 0),
  (.aload_n 0, 1, 0, 0, 0, 0, 0),
  (.iconst (-1), 1, 0, -1, 0, 0, 0),
  (.invokevirtual 177, 3, 36, 1, 0, 12, 177),
  (.ireturn, 1, 0, 0, 0, 0, 0)]
def kX12_treeOf_20 : List JI := [(.iload_n 2, 1, 2, 0, 0, 0, 0),
  (.tableswitch 98 0 4 #[35, 42, 49, 70, 91], 35, 0, 0, 0, 0, 0)]
def kX12_treeOf_56 : List JI := [(.aload_n 0, 1, 0, 0, 0, 0, 0),
  (.getfield 95, 3, 12, 35, 4, 0, 130),
  (.iload_n 1, 1, 1, 0, 0, 0, 0),
  (.iaload, 1, 0, 0, 0, 0, 0),
  (.ireturn, 1, 0, 0, 0, 0, 0)]
def kX12_treeOf_63 : List JI := [(.aload_n 0, 1, 0, 0, 0, 0, 0),
  (.getfield 101, 3, 12, 37, 4, 0, 132),
  (.iload_n 1, 1, 1, 0, 0, 0, 0),
  (.iaload, 1, 0, 0, 0, 0, 0),
  (.ireturn, 1, 0, 0, 0, 0, 0)]
def kX12_treeOf_70 : List JI := [(.aload_n 0, 1, 0, 0, 0, 0, 0),
  (.getfield 104, 3, 12, 38, 4, 0, 133),
  (.iload_n 1, 1, 1, 0, 0, 0, 0),
  (.iaload, 1, 0, 0, 0, 0, 0),
  (.ifCond .ge 8, 3, 84, 0, 0, 0, 0),
  (.bipush (-9), 2, 0, -9, 0, 0, 0),
  (.goto 9, 3, 90, 0, 0, 0, 0)]
def kX12_treeOf_84 : List JI := [(.aload_n 0, 1, 0, 0, 0, 0, 0),
  (.getfield 104, 3, 12, 38, 4, 0, 133),
  (.iload_n 1, 1, 1, 0, 0, 0, 0),
  (.iaload, 1, 0, 0, 0, 0, 0)]
def kX12_treeOf_90 : List JI := [(.ireturn, 1, 0, 0, 0, 0, 0)]
def kX12_treeOf_91 : List JI := [(.aload_n 0, 1, 0, 0, 0, 0, 0),
  (.getfield 104, 3, 12, 38, 4, 0, 133),
  (.iload_n 1, 1, 1, 0, 0, 0, 0),
  (.iaload, 1, 0, 0, 0, 0, 0),
  (.ifCond .ge 8, 3, 105, 0, 0, 0, 0),
  (.bipush (-9), 2, 0, -9, 0, 0, 0),
  (.goto 9, 3, 111, 0, 0, 0, 0)]
def kX12_treeOf_105 : List JI := [(.aload_n 0, 1, 0, 0, 0, 0, 0),
  (.getfield 107, 3, 12, 39, 4, 0, 134),
  (.iload_n 1, 1, 1, 0, 0, 0, 0),
  (.iaload, 1, 0, 0, 0, 0, 0)]
def kX12_treeOf_111 : List JI := [(.ireturn, 1, 0, 0, 0, 0, 0)]
def kX12_treeOf_112 : List JI := [(.aload_n 0, 1, 0, 0, 0, 0, 0),
  (.getfield 98, 3, 12, 36, 4, 0, 131),
  (.iload_n 1, 1, 1, 0, 0, 0, 0),
  (.iaload, 1, 0, 0, 0, 0, 0),
  (.ireturn, 1, 0, 0, 0, 0, 0)]
def kX12_treeOf_119 : List JI := [(.aload_n 0, 1, 0, 0, 0, 0, 0),
  (.bipush (-2), 2, 0, -2, 0, 0, 0),
  (.invokevirtual 177, 3, 36, 1, 0, 12, 177),
  (.ireturn, 1, 0, 0, 0, 0, 0)]
theorem qq_X12_treeOf : (((jchk 127 0 kX12_treeOf_0 && (jchk 127 20 kX12_treeOf_20 && jchk 127 56 kX12_treeOf_56)) && (jchk 127 63 kX12_treeOf_63 && (jchk 127 70 kX12_treeOf_70 && jchk 127 84 kX12_treeOf_84))) && ((jchk 127 90 kX12_treeOf_90 && (jchk 127 91 kX12_treeOf_91 && jchk 127 105 kX12_treeOf_105)) && (jchk 127 111 kX12_treeOf_111 && (jchk 127 112 kX12_treeOf_112 && jchk 127 119 kX12_treeOf_119)))) = true := by decide +kernel
theorem qX12_treeOf_0 : jchk 127 0 kX12_treeOf_0 = true := jb1 (jb1 (jb1 (qq_X12_treeOf)))
theorem qX12_treeOf_20 : jchk 127 20 kX12_treeOf_20 = true := jb1 (jb2 (jb1 (jb1 (qq_X12_treeOf))))
theorem qX12_treeOf_56 : jchk 127 56 kX12_treeOf_56 = true := jb2 (jb2 (jb1 (jb1 (qq_X12_treeOf))))
theorem qX12_treeOf_63 : jchk 127 63 kX12_treeOf_63 = true := jb1 (jb2 (jb1 (qq_X12_treeOf)))
theorem qX12_treeOf_70 : jchk 127 70 kX12_treeOf_70 = true := jb1 (jb2 (jb2 (jb1 (qq_X12_treeOf))))
theorem qX12_treeOf_84 : jchk 127 84 kX12_treeOf_84 = true := jb2 (jb2 (jb2 (jb1 (qq_X12_treeOf))))
theorem qX12_treeOf_90 : jchk 127 90 kX12_treeOf_90 = true := jb1 (jb1 (jb2 (qq_X12_treeOf)))
theorem qX12_treeOf_91 : jchk 127 91 kX12_treeOf_91 = true := jb1 (jb2 (jb1 (jb2 (qq_X12_treeOf))))
theorem qX12_treeOf_105 : jchk 127 105 kX12_treeOf_105 = true := jb2 (jb2 (jb1 (jb2 (qq_X12_treeOf))))
theorem qX12_treeOf_111 : jchk 127 111 kX12_treeOf_111 = true := jb1 (jb2 (jb2 (qq_X12_treeOf)))
theorem qX12_treeOf_112 : jchk 127 112 kX12_treeOf_112 = true := jb1 (jb2 (jb2 (jb2 (qq_X12_treeOf))))
theorem qX12_treeOf_119 : jchk 127 119 kX12_treeOf_119 = true := jb2 (jb2 (jb2 (jb2 (qq_X12_treeOf))))
def kX5_add_0 : List JI := [(.aload_n 0, 1, 0, 0, 0, 0, 0),
  (.getfield 9, 3, 5, 1, 4, 0, 49),
  (.aload_n 0, 1, 0, 0, 0, 0, 0),
  (.getfield 24, 3, 5, 0, 1, 0, 329),
  (.iload_n 1, 1, 1, 0, 0, 0, 0),
  (.iastore, 1, 0, 0, 0, 0, 0),
  (.aload_n 0, 1, 0, 0, 0, 0, 0),
  (.getfield 15, 3, 5, 2, 4, 0, 50),
  (.aload_n 0, 1, 0, 0, 0, 0, 0),
  (.getfield 24, 3, 5, 0, 1, 0, 329),
  (.iload_n 2, 1, 2, 0, 0, 0, 0),
  (.iastore, 1, 0, 0, 0, 0, 0),
  (.aload_n 0, 1, 0, 0, 0, 0, 0),
  (.getfield 18, 3, 5, 3, 4, 0, 51),
  (.aload_n 0, 1, 0, 0, 0, 0, 0),
  (.getfield 24, 3, 5, 0, 1, 0, 329),
  (.iload_n 3, 1, 3, 0, 0, 0, 0),
  (.iastore, 1, 0, 0, 0, 0, 0),
  (.aload_n 0, 1, 0, 0, 0, 0, 0),
  (.getfield 21, 3, 5, 4, 4, 0, 52),
  (.aload_n 0, 1, 0, 0, 0, 0, 0),
  (.getfield 24, 3, 5, 0, 1, 0, 329),
  (.iconst 0, 1, 0, 0, 0, 0, 0),
  (.iastore, 1, 0, 0, 0, 0, 0),
  (.iconst 0, 1, 0, 0, 0, 0, 0),
  (.istore 4, 2, 4, 0, 0, 0, 0)]
def kX5_add_43 : List JI := [(.iload 4, 2, 4, 0, 0, 0, 0),
  (.aload_n 0, 1, 0, 0, 0, 0, 0),
  (.getfield 24, 3, 5, 0, 1, 0, 329),
  (.if_icmp .ge 36, 3, 85, 0, 0, 0, 0),
  (.aload_n 0, 1, 0, 0, 0, 0, 0),
  (.getfield 9, 3, 5, 1, 4, 0, 49),
  (.iload 4, 2, 4, 0, 0, 0, 0),
  (.iaload, 1, 0, 0, 0, 0, 0),
  (.iload_n 1, 1, 1, 0, 0, 0, 0),
  (.if_icmp .ne 19, 3, 79, 0, 0, 0, 0),
  (.aload_n 0, 1, 0, 0, 0, 0, 0),
  (.getfield 21, 3, 5, 4, 4, 0, 52),
  (.aload_n 0, 1, 0, 0, 0, 0, 0),
  (.getfield 24, 3, 5, 0, 1, 0, 329),
  (.aload_n 0, 1, 0, 0, 0, 0, 0),
  (.getfield 15, 3, 5, 2, 4, 0, 50),
  (.iload 4, 2, 4, 0, 0, 0, 0),
  (.iaload, 1, 0, 0, 0, 0, 0),
  (.iastore, 1, 0, 0, 0, 0, 0)]
def kX5_add_79 : List JI := [(.iinc 4 1, 3, 4, 1, 0, 0, 0),
  (.goto (-39), 3, 43, 0, 0, 0, 0)]
def kX5_add_85 : List JI := [(.aload_n 0, 1, 0, 0, 0, 0, 0),
  (.dup, 1, 0, 0, 0, 0, 0),
  (.getfield 24, 3, 5, 0, 1, 0, 329),
  (.iconst 1, 1, 0, 1, 0, 0, 0),
  (.iadd, 1, 0, 0, 0, 0, 0),
  (.putfield 24, 3, 5, 0, 1, 0, 329),
  (.return_, 1, 0, 0, 0, 0, 0)]
theorem qq_X5_add : ((jchk 128 0 kX5_add_0 && jchk 128 43 kX5_add_43) && (jchk 128 79 kX5_add_79 && jchk 128 85 kX5_add_85)) = true := by decide +kernel
theorem qX5_add_0 : jchk 128 0 kX5_add_0 = true := jb1 (jb1 (qq_X5_add))
theorem qX5_add_43 : jchk 128 43 kX5_add_43 = true := jb2 (jb1 (qq_X5_add))
theorem qX5_add_79 : jchk 128 79 kX5_add_79 = true := jb1 (jb2 (qq_X5_add))
theorem qX5_add_85 : jchk 128 85 kX5_add_85 = true := jb2 (jb2 (qq_X5_add))
def kX11_count_0 : List JI := [(.iload_n 1, 1, 1, 0, 0, 0, 0),
  (.bipush 6, 2, 0, 6, 0, 0, 0),
  (.invokestatic 85, 3, 14, 2, 0, 11, 157),
  (.ifCond .ne 7, 3, 13, 0, 0, 0, 0),
  (.iconst (-1), 1, 0, -1, 0, 0, 0),
  (.goto 10, 3, 20, 0, 0, 0, 0)]
def kX11_count_13 : List JI := [(.iload_n 2, 1, 2, 0, 0, 0, 0),
  (.iconst 0, 1, 0, 0, 0, 0, 0),
  (.ldc 103, 2, 0, 1000000, 0, 0, 164),
  (.invokestatic 89, 3, 15, 3, 0, 11, 158)]
def kX11_count_20 : List JI := [(.istore_n 3, 1, 3, 0, 0, 0, 0),
  (.iload_n 3, 1, 3, 0, 0, 0, 0),
  (.ifCond .ne 18, 3, 40, 0, 0, 0, 0),
  (.aload_n 0, 1, 0, 0, 0, 0, 0),
  (.getfield 65, 3, 11, 9, 4, 0, 94),
  (.getfield 287, 3, 5, 0, 1, 0, 330),
  (.bipush 40, 2, 0, 40, 0, 0, 0),
  (.if_icmp .lt 6, 3, 40, 0, 0, 0, 0),
  (.bipush (-6), 2, 0, -6, 0, 0, 0),
  (.istore_n 3, 1, 3, 0, 0, 0, 0)]
def kX11_count_40 : List JI := [(.iload_n 3, 1, 3, 0, 0, 0, 0),
  (.ifCond .eq 9, 3, 50, 0, 0, 0, 0),
  (.aload_n 0, 1, 0, 0, 0, 0, 0),
  (.iload_n 3, 1, 3, 0, 0, 0, 0),
  (.invokevirtual 134, 3, 34, 1, 0, 11, 174),
  (.ireturn, 1, 0, 0, 0, 0, 0)]
def kX11_count_50 : List JI := [(.aload_n 0, 1, 0, 0, 0, 0, 0),
  (.getfield 81, 3, 11, 11, 4, 0, 100),
  (.invokevirtual 97, 3, 17, 0, 0, 7, 160),
  (.aload_n 0, 1, 0, 0, 0, 0, 0),
  (.getfield 37, 3, 11, 5, 4, 0, 82),
  (.getfield 104, 3, 10, 0, 4, 0, 165),
  (.iload_n 1, 1, 1, 0, 0, 0, 0),
  (.iaload, 1, 0, 0, 0, 0, 0),
  (.iload_n 2, 1, 2, 0, 0, 0, 0),
  (.isub, 1, 0, 0, 0, 0, 0),
  (.istore 4, 2, 4, 0, 0, 0, 0),
  (.aload_n 0, 1, 0, 0, 0, 0, 0),
  (.getfield 37, 3, 11, 5, 4, 0, 82),
  (.getfield 104, 3, 10, 0, 4, 0, 165),
  (.iload_n 1, 1, 1, 0, 0, 0, 0),
  (.iload_n 2, 1, 2, 0, 0, 0, 0),
  (.iastore, 1, 0, 0, 0, 0, 0),
  (.aload_n 0, 1, 0, 0, 0, 0, 0),
  (.getfield 65, 3, 11, 9, 4, 0, 94),
  (.iload_n 1, 1, 1, 0, 0, 0, 0),
  (.aload_n 0, 1, 0, 0, 0, 0, 0),
  (.getfield 147, 3, 11, 0, 1, 0, 182),
  (.iload 4, 2, 4, 0, 0, 0, 0),
  (.invokevirtual 288, 3, 128, 3, 0, 5, 331),
  (.iload 4, 2, 4, 0, 0, 0, 0),
  (.ireturn, 1, 0, 0, 0, 0, 0)]
theorem qq_X11_count : ((jchk 129 0 kX11_count_0 && jchk 129 13 kX11_count_13) && (jchk 129 20 kX11_count_20 && (jchk 129 40 kX11_count_40 && jchk 129 50 kX11_count_50))) = true := by decide +kernel
theorem qX11_count_0 : jchk 129 0 kX11_count_0 = true := jb1 (jb1 (qq_X11_count))
theorem qX11_count_13 : jchk 129 13 kX11_count_13 = true := jb2 (jb1 (qq_X11_count))
theorem qX11_count_20 : jchk 129 20 kX11_count_20 = true := jb1 (jb2 (qq_X11_count))
theorem qX11_count_40 : jchk 129 40 kX11_count_40 = true := jb1 (jb2 (jb2 (qq_X11_count)))
theorem qX11_count_50 : jchk 129 50 kX11_count_50 = true := jb2 (jb2 (jb2 (qq_X11_count)))
def kX12_count_0 : List JI := [(.iload_n 1, 1, 1, 0, 0, 0, 0),
  (.iconst 0, 1, 0, 0, 0, 0, 0),
  (.iconst 5, 1, 0, 5, 0, 0, 0),
  (.invokestatic 168, 3, 19, 3, 0, 12, 162),
  (.ifCond .ne 9, 3, 15, 0, 0, 0, 0),
  (.aload_n 0, 1, 0, 0, 0, 0, 0),
  (.iconst (-1), 1, 0, -1, 0, 0, 0),
  (.invokevirtual 177, 3, 36, 1, 0, 12, 177),
  (.ireturn, 1, 0, 0, 0, 0, 0)]
def kX12_count_15 : List JI := [(.iload_n 2, 1, 2, 0, 0, 0, 0),
  (.ifCond .ge 10, 3, 26, 0, 0, 0, 0),
  (.aload_n 0, 1, 0, 0, 0, 0, 0),
  (.bipush (-4), 2, 0, -4, 0, 0, 0),
  (.invokevirtual 177, 3, 36, 1, 0, 12, 177),
  (.ireturn, 1, 0, 0, 0, 0, 0)]
def kX12_count_26 : List JI := [(.iload_n 2, 1, 2, 0, 0, 0, 0),
  (.ldc 176, 2, 0, 1000000, 0, 0, 166),
  (.if_icmp .gt 12, 3, 41, 0, 0, 0, 0),
  (.aload_n 0, 1, 0, 0, 0, 0, 0),
  (.getfield 266, 3, 12, 45, 1, 0, 332),
  (.bipush 40, 2, 0, 40, 0, 0, 0),
  (.if_icmp .ne 10, 3, 48, 0, 0, 0, 0)]
def kX12_count_41 : List JI := [(.aload_n 0, 1, 0, 0, 0, 0, 0),
  (.bipush (-6), 2, 0, -6, 0, 0, 0),
  (.invokevirtual 177, 3, 36, 1, 0, 12, 177),
  (.ireturn, 1, 0, 0, 0, 0, 0)]
def kX12_count_48 : List JI := [(.iconst 0, 1, 0, 0, 0, 0, 0),
  (.istore_n 3, 1, 3, 0, 0, 0, 0),
  (.iconst 0, 1, 0, 0, 0, 0, 0),
  (.istore 4, 2, 4, 0, 0, 0, 0)]
def kX12_count_53 : List JI := [(.iload 4, 2, 4, 0, 0, 0, 0),
  (.aload_n 0, 1, 0, 0, 0, 0, 0),
  (.getfield 266, 3, 12, 45, 1, 0, 332),
  (.if_icmp .ge 32, 3, 91, 0, 0, 0, 0),
  (.aload_n 0, 1, 0, 0, 0, 0, 0),
  (.getfield 125, 3, 12, 46, 4, 0, 140),
  (.iload 4, 2, 4, 0, 0, 0, 0),
  (.iaload, 1, 0, 0, 0, 0, 0),
  (.iload_n 1, 1, 1, 0, 0, 0, 0),
  (.if_icmp .ne 13, 3, 83, 0, 0, 0, 0),
  (.aload_n 0, 1, 0, 0, 0, 0, 0),
  (.getfield 128, 3, 12, 47, 4, 0, 141),
  (.iload 4, 2, 4, 0, 0, 0, 0),
  (.iaload, 1, 0, 0, 0, 0, 0),
  (.goto 4, 3, 84, 0, 0, 0, 0)]
def kX12_count_83 : List JI := [(.iload_n 3, 1, 3, 0, 0, 0, 0)]
def kX12_count_84 : List JI := [(.istore_n 3, 1, 3, 0, 0, 0, 0),
  (.iinc 4 1, 3, 4, 1, 0, 0, 0),
  (.goto (-35), 3, 53, 0, 0, 0, 0)]
def kX12_count_91 : List JI := [(.aload_n 0, 1, 0, 0, 0, 0, 0),
  (.getfield 125, 3, 12, 46, 4, 0, 140),
  (.aload_n 0, 1, 0, 0, 0, 0, 0),
  (.getfield 266, 3, 12, 45, 1, 0, 332),
  (.iload_n 1, 1, 1, 0, 0, 0, 0),
  (.iastore, 1, 0, 0, 0, 0, 0),
  (.aload_n 0, 1, 0, 0, 0, 0, 0),
  (.getfield 128, 3, 12, 47, 4, 0, 141),
  (.aload_n 0, 1, 0, 0, 0, 0, 0),
  (.getfield 266, 3, 12, 45, 1, 0, 332),
  (.aload_n 0, 1, 0, 0, 0, 0, 0),
  (.getfield 184, 3, 12, 0, 1, 0, 187),
  (.iastore, 1, 0, 0, 0, 0, 0),
  (.aload_n 0, 1, 0, 0, 0, 0, 0),
  (.getfield 131, 3, 12, 48, 4, 0, 142),
  (.aload_n 0, 1, 0, 0, 0, 0, 0),
  (.getfield 266, 3, 12, 45, 1, 0, 332),
  (.aload_n 0, 1, 0, 0, 0, 0, 0),
  (.getfield 22, 3, 12, 5, 4, 0, 106),
  (.iload_n 1, 1, 1, 0, 0, 0, 0),
  (.iaload, 1, 0, 0, 0, 0, 0),
  (.iload_n 2, 1, 2, 0, 0, 0, 0),
  (.isub, 1, 0, 0, 0, 0, 0),
  (.iastore, 1, 0, 0, 0, 0, 0),
  (.aload_n 0, 1, 0, 0, 0, 0, 0),
  (.getfield 134, 3, 12, 49, 4, 0, 143),
  (.aload_n 0, 1, 0, 0, 0, 0, 0),
  (.getfield 266, 3, 12, 45, 1, 0, 332),
  (.iload_n 3, 1, 3, 0, 0, 0, 0),
  (.iastore, 1, 0, 0, 0, 0, 0),
  (.aload_n 0, 1, 0, 0, 0, 0, 0),
  (.dup, 1, 0, 0, 0, 0, 0),
  (.getfield 266, 3, 12, 45, 1, 0, 332),
  (.iconst 1, 1, 0, 1, 0, 0, 0),
  (.iadd, 1, 0, 0, 0, 0, 0),
  (.putfield 266, 3, 12, 45, 1, 0, 332),
  (.aload_n 0, 1, 0, 0, 0, 0, 0),
  (.getfield 22, 3, 12, 5, 4, 0, 106),
  (.iload_n 1, 1, 1, 0, 0, 0, 0),
  (.iload_n 2, 1, 2, 0, 0, 0, 0),
  (.iastore, 1, 0, 0, 0, 0, 0),
  (.aload_n 0, 1, 0, 0, 0, 0, 0),
  (.getfield 131, 3, 12, 48, 4, 0, 142),
  (.aload_n 0, 1, 0, 0, 0, 0, 0),
  (.getfield 266, 3, 12, 45, 1, 0, 332),
  (.iconst 1, 1, 0, 1, 0, 0, 0),
  (.isub, 1, 0, 0, 0, 0, 0),
  (.iaload, 1, 0, 0, 0, 0, 0),
  (.ireturn, 1, 0, 0, 0, 0, 0)]
theorem qq_X12_count : (((jchk 130 0 kX12_count_0 && jchk 130 15 kX12_count_15) && (jchk 130 26 kX12_count_26 && jchk 130 41 kX12_count_41)) && ((jchk 130 48 kX12_count_48 && jchk 130 53 kX12_count_53) && (jchk 130 83 kX12_count_83 && (jchk 130 84 kX12_count_84 && jchk 130 91 kX12_count_91)))) = true := by decide +kernel
theorem qX12_count_0 : jchk 130 0 kX12_count_0 = true := jb1 (jb1 (jb1 (qq_X12_count)))
theorem qX12_count_15 : jchk 130 15 kX12_count_15 = true := jb2 (jb1 (jb1 (qq_X12_count)))
theorem qX12_count_26 : jchk 130 26 kX12_count_26 = true := jb1 (jb2 (jb1 (qq_X12_count)))
theorem qX12_count_41 : jchk 130 41 kX12_count_41 = true := jb2 (jb2 (jb1 (qq_X12_count)))
theorem qX12_count_48 : jchk 130 48 kX12_count_48 = true := jb1 (jb1 (jb2 (qq_X12_count)))
theorem qX12_count_53 : jchk 130 53 kX12_count_53 = true := jb2 (jb1 (jb2 (qq_X12_count)))
theorem qX12_count_83 : jchk 130 83 kX12_count_83 = true := jb1 (jb2 (jb2 (qq_X12_count)))
theorem qX12_count_84 : jchk 130 84 kX12_count_84 = true := jb1 (jb2 (jb2 (jb2 (qq_X12_count))))
theorem qX12_count_91 : jchk 130 91 kX12_count_91 = true := jb2 (jb2 (jb2 (jb2 (qq_X12_count))))
def kX11_gap_0 : List JI := [(.iload_n 1, 1, 1, 0, 0, 0, 0),
  (.aload_n 0, 1, 0, 0, 0, 0, 0),
  (.getfield 65, 3, 11, 9, 4, 0, 94),
  (.getfield 287, 3, 5, 0, 1, 0, 330),
  (.invokestatic 85, 3, 14, 2, 0, 11, 157),
  (.ifCond .ne 9, 3, 20, 0, 0, 0, 0),
  (.aload_n 0, 1, 0, 0, 0, 0, 0),
  (.iconst (-1), 1, 0, -1, 0, 0, 0),
  (.invokevirtual 134, 3, 34, 1, 0, 11, 174),
  (.ireturn, 1, 0, 0, 0, 0, 0)]
def kX11_gap_20 : List JI := [(.iload_n 2, 1, 2, 0, 0, 0, 0),
  (.tableswitch 71 0 3 #[31, 41, 51, 61], 31, 0, 0, 0, 0, 0)]
def kX11_gap_52 : List JI := [(.aload_n 0, 1, 0, 0, 0, 0, 0),
  (.getfield 65, 3, 11, 9, 4, 0, 94),
  (.getfield 290, 3, 5, 1, 4, 0, 333),
  (.iload_n 1, 1, 1, 0, 0, 0, 0),
  (.iaload, 1, 0, 0, 0, 0, 0),
  (.ireturn, 1, 0, 0, 0, 0, 0)]
def kX11_gap_62 : List JI := [(.aload_n 0, 1, 0, 0, 0, 0, 0),
  (.getfield 65, 3, 11, 9, 4, 0, 94),
  (.getfield 293, 3, 5, 2, 4, 0, 334),
  (.iload_n 1, 1, 1, 0, 0, 0, 0),
  (.iaload, 1, 0, 0, 0, 0, 0),
  (.ireturn, 1, 0, 0, 0, 0, 0)]
def kX11_gap_72 : List JI := [(.aload_n 0, 1, 0, 0, 0, 0, 0),
  (.getfield 65, 3, 11, 9, 4, 0, 94),
  (.getfield 296, 3, 5, 3, 4, 0, 335),
  (.iload_n 1, 1, 1, 0, 0, 0, 0),
  (.iaload, 1, 0, 0, 0, 0, 0),
  (.ireturn, 1, 0, 0, 0, 0, 0)]
def kX11_gap_82 : List JI := [(.aload_n 0, 1, 0, 0, 0, 0, 0),
  (.getfield 65, 3, 11, 9, 4, 0, 94),
  (.getfield 299, 3, 5, 4, 4, 0, 336),
  (.iload_n 1, 1, 1, 0, 0, 0, 0),
  (.iaload, 1, 0, 0, 0, 0, 0),
  (.ireturn, 1, 0, 0, 0, 0, 0)]
def kX11_gap_92 : List JI := [(.aload_n 0, 1, 0, 0, 0, 0, 0),
  (.bipush (-2), 2, 0, -2, 0, 0, 0),
  (.invokevirtual 134, 3, 34, 1, 0, 11, 174),
  (.ireturn, 1, 0, 0, 0, 0, 0)]
theorem qq_X11_gap : ((jchk 131 0 kX11_gap_0 && (jchk 131 20 kX11_gap_20 && jchk 131 52 kX11_gap_52)) && ((jchk 131 62 kX11_gap_62 && jchk 131 72 kX11_gap_72) && (jchk 131 82 kX11_gap_82 && jchk 131 92 kX11_gap_92))) = true := by decide +kernel
theorem qX11_gap_0 : jchk 131 0 kX11_gap_0 = true := jb1 (jb1 (qq_X11_gap))
theorem qX11_gap_20 : jchk 131 20 kX11_gap_20 = true := jb1 (jb2 (jb1 (qq_X11_gap)))
theorem qX11_gap_52 : jchk 131 52 kX11_gap_52 = true := jb2 (jb2 (jb1 (qq_X11_gap)))
theorem qX11_gap_62 : jchk 131 62 kX11_gap_62 = true := jb1 (jb1 (jb2 (qq_X11_gap)))
theorem qX11_gap_72 : jchk 131 72 kX11_gap_72 = true := jb2 (jb1 (jb2 (qq_X11_gap)))
theorem qX11_gap_82 : jchk 131 82 kX11_gap_82 = true := jb1 (jb2 (jb2 (qq_X11_gap)))
theorem qX11_gap_92 : jchk 131 92 kX11_gap_92 = true := jb2 (jb2 (jb2 (qq_X11_gap)))
def kX12_gap_0 : List JI := [(.iload_n 1, 1, 1, 0, 0, 0, 0),
  (.iconst 0, 1, 0, 0, 0, 0, 0),
  (.aload_n 0, 1, 0, 0, 0, 0, 0),
  (.getfield 266, 3, 12, 45, 1, 0, 332),
  (.iconst 1, 1, 0, 1, 0, 0, 0),
  (.isub, 1, 0, 0, 0, 0, 0),
  (.invokestatic 168, 3, 19, 3, 0, 12, 162),
  (.ifCond .ne 9, 3, 20, 0, 0, 0, 0),
  (.aload_n 0, 1, 0, 0, 0, 0, 0),
  (.iconst (-1), 1, 0, -1, 0, 0, 0),
  (.invokevirtual 177, 3, 36, 1, 0, 12, 177),
  (.ireturn, 1, 0, 0, 0, 0, 0)]
def kX12_gap_20 : List JI := [(.iload_n 2, 1, 2, 0, 0, 0, 0),
  (.tableswitch 59 0 3 #[31, 38, 45, 52], 31, 0, 0, 0, 0, 0)]
def kX12_gap_52 : List JI := [(.aload_n 0, 1, 0, 0, 0, 0, 0),
  (.getfield 125, 3, 12, 46, 4, 0, 140),
  (.iload_n 1, 1, 1, 0, 0, 0, 0),
  (.iaload, 1, 0, 0, 0, 0, 0),
  (.ireturn, 1, 0, 0, 0, 0, 0)]
def kX12_gap_59 : List JI := [(.aload_n 0, 1, 0, 0, 0, 0, 0),
  (.getfield 128, 3, 12, 47, 4, 0, 141),
  (.iload_n 1, 1, 1, 0, 0, 0, 0),
  (.iaload, 1, 0, 0, 0, 0, 0),
  (.ireturn, 1, 0, 0, 0, 0, 0)]
def kX12_gap_66 : List JI := [(.aload_n 0, 1, 0, 0, 0, 0, 0),
  (.getfield 131, 3, 12, 48, 4, 0, 142),
  (.iload_n 1, 1, 1, 0, 0, 0, 0),
  (.iaload, 1, 0, 0, 0, 0, 0),
  (.ireturn, 1, 0, 0, 0, 0, 0)]
def kX12_gap_73 : List JI := [(.aload_n 0, 1, 0, 0, 0, 0, 0),
  (.getfield 134, 3, 12, 49, 4, 0, 143),
  (.iload_n 1, 1, 1, 0, 0, 0, 0),
  (.iaload, 1, 0, 0, 0, 0, 0),
  (.ireturn, 1, 0, 0, 0, 0, 0)]
def kX12_gap_80 : List JI := [(.aload_n 0, 1, 0, 0, 0, 0, 0),
  (.bipush (-2), 2, 0, -2, 0, 0, 0),
  (.invokevirtual 177, 3, 36, 1, 0, 12, 177),
  (.ireturn, 1, 0, 0, 0, 0, 0)]
theorem qq_X12_gap : ((jchk 132 0 kX12_gap_0 && (jchk 132 20 kX12_gap_20 && jchk 132 52 kX12_gap_52)) && ((jchk 132 59 kX12_gap_59 && jchk 132 66 kX12_gap_66) && (jchk 132 73 kX12_gap_73 && jchk 132 80 kX12_gap_80))) = true := by decide +kernel
theorem qX12_gap_0 : jchk 132 0 kX12_gap_0 = true := jb1 (jb1 (qq_X12_gap))
theorem qX12_gap_20 : jchk 132 20 kX12_gap_20 = true := jb1 (jb2 (jb1 (qq_X12_gap)))
theorem qX12_gap_52 : jchk 132 52 kX12_gap_52 = true := jb2 (jb2 (jb1 (qq_X12_gap)))
theorem qX12_gap_59 : jchk 132 59 kX12_gap_59 = true := jb1 (jb1 (jb2 (qq_X12_gap)))
theorem qX12_gap_66 : jchk 132 66 kX12_gap_66 = true := jb2 (jb1 (jb2 (qq_X12_gap)))
theorem qX12_gap_73 : jchk 132 73 kX12_gap_73 = true := jb1 (jb2 (jb2 (qq_X12_gap)))
theorem qX12_gap_80 : jchk 132 80 kX12_gap_80 = true := jb2 (jb2 (jb2 (qq_X12_gap)))
def kJ9_max_7cf53_0 : List JI := [(.iload_n 0, 1, 0, 0, 0, 0, 0),
  (.iload_n 1, 1, 1, 0, 0, 0, 0),
  (.if_icmp .lt 7, 3, 9, 0, 0, 0, 0),
  (.iload_n 0, 1, 0, 0, 0, 0, 0),
  (.goto 4, 3, 10, 0, 0, 0, 0)]
def kJ9_max_7cf53_9 : List JI := [(.iload_n 1, 1, 1, 0, 0, 0, 0)]
def kJ9_max_7cf53_10 : List JI := [(.ireturn, 1, 0, 0, 0, 0, 0)]
theorem qq_J9_max_7cf53 : (jchk 133 0 kJ9_max_7cf53_0 && (jchk 133 9 kJ9_max_7cf53_9 && jchk 133 10 kJ9_max_7cf53_10)) = true := by decide +kernel
theorem qJ9_max_7cf53_0 : jchk 133 0 kJ9_max_7cf53_0 = true := jb1 (qq_J9_max_7cf53)
theorem qJ9_max_7cf53_9 : jchk 133 9 kJ9_max_7cf53_9 = true := jb1 (jb2 (qq_J9_max_7cf53))
theorem qJ9_max_7cf53_10 : jchk 133 10 kJ9_max_7cf53_10 = true := jb2 (jb2 (qq_J9_max_7cf53))
def kX5_spanOf_0 : List JI := [(.iconst 1, 1, 0, 1, 0, 0, 0),
  (.aload_n 0, 1, 0, 0, 0, 0, 0),
  (.getfield 15, 3, 5, 2, 4, 0, 50),
  (.iload_n 1, 1, 1, 0, 0, 0, 0),
  (.iaload, 1, 0, 0, 0, 0, 0),
  (.aload_n 0, 1, 0, 0, 0, 0, 0),
  (.getfield 21, 3, 5, 4, 4, 0, 52),
  (.iload_n 1, 1, 1, 0, 0, 0, 0),
  (.iaload, 1, 0, 0, 0, 0, 0),
  (.isub, 1, 0, 0, 0, 0, 0),
  (.invokestatic 36, 3, 997, 1, 0, 0, 337),
  (.ireturn, 1, 0, 0, 0, 0, 0)]
theorem qX5_spanOf_0 : jchk 134 0 kX5_spanOf_0 = true := by decide +kernel
def kX5_isWorse_0 : List JI := [(.aload_n 0, 1, 0, 0, 0, 0, 0),
  (.getfield 18, 3, 5, 3, 4, 0, 51),
  (.iload_n 1, 1, 1, 0, 0, 0, 0),
  (.iaload, 1, 0, 0, 0, 0, 0),
  (.i2l, 1, 0, 0, 0, 0, 0),
  (.aload_n 0, 1, 0, 0, 0, 0, 0),
  (.iload_n 2, 1, 2, 0, 0, 0, 0),
  (.invokevirtual 32, 3, 134, 1, 0, 5, 338),
  (.i2l, 1, 0, 0, 0, 0, 0),
  (.lmul, 1, 0, 0, 0, 0, 0),
  (.aload_n 0, 1, 0, 0, 0, 0, 0),
  (.getfield 18, 3, 5, 3, 4, 0, 51),
  (.iload_n 2, 1, 2, 0, 0, 0, 0),
  (.iaload, 1, 0, 0, 0, 0, 0),
  (.i2l, 1, 0, 0, 0, 0, 0),
  (.aload_n 0, 1, 0, 0, 0, 0, 0),
  (.iload_n 1, 1, 1, 0, 0, 0, 0),
  (.invokevirtual 32, 3, 134, 1, 0, 5, 338),
  (.i2l, 1, 0, 0, 0, 0, 0),
  (.lmul, 1, 0, 0, 0, 0, 0),
  (.lcmp, 1, 0, 0, 0, 0, 0),
  (.ifCond .le 7, 3, 36, 0, 0, 0, 0),
  (.iconst 1, 1, 0, 1, 0, 0, 0),
  (.goto 4, 3, 37, 0, 0, 0, 0)]
def kX5_isWorse_36 : List JI := [(.iconst 0, 1, 0, 0, 0, 0, 0)]
def kX5_isWorse_37 : List JI := [(.ireturn, 1, 0, 0, 1, 0, 0)]
theorem qq_X5_isWorse : (jchk 135 0 kX5_isWorse_0 && (jchk 135 36 kX5_isWorse_36 && jchk 135 37 kX5_isWorse_37)) = true := by decide +kernel
theorem qX5_isWorse_0 : jchk 135 0 kX5_isWorse_0 = true := jb1 (qq_X5_isWorse)
theorem qX5_isWorse_36 : jchk 135 36 kX5_isWorse_36 = true := jb1 (jb2 (qq_X5_isWorse))
theorem qX5_isWorse_37 : jchk 135 37 kX5_isWorse_37 = true := jb2 (jb2 (qq_X5_isWorse))
def kX5_worstOf_0 : List JI := [(.bipush (-9), 2, 0, -9, 0, 0, 0),
  (.istore_n 2, 1, 2, 0, 0, 0, 0),
  (.iconst 0, 1, 0, 0, 0, 0, 0),
  (.istore_n 3, 1, 3, 0, 0, 0, 0)]
def kX5_worstOf_5 : List JI := [(.iload_n 3, 1, 3, 0, 0, 0, 0),
  (.aload_n 0, 1, 0, 0, 0, 0, 0),
  (.getfield 24, 3, 5, 0, 1, 0, 329),
  (.if_icmp .ge 45, 3, 55, 0, 0, 0, 0),
  (.aload_n 0, 1, 0, 0, 0, 0, 0),
  (.getfield 9, 3, 5, 1, 4, 0, 49),
  (.iload_n 3, 1, 3, 0, 0, 0, 0),
  (.iaload, 1, 0, 0, 0, 0, 0),
  (.iload_n 1, 1, 1, 0, 0, 0, 0),
  (.if_icmp .ne 29, 3, 49, 0, 0, 0, 0),
  (.aload_n 0, 1, 0, 0, 0, 0, 0),
  (.getfield 18, 3, 5, 3, 4, 0, 51),
  (.iload_n 3, 1, 3, 0, 0, 0, 0),
  (.iaload, 1, 0, 0, 0, 0, 0),
  (.ifCond .le 20, 3, 49, 0, 0, 0, 0),
  (.iload_n 2, 1, 2, 0, 0, 0, 0),
  (.bipush (-9), 2, 0, -9, 0, 0, 0),
  (.if_icmp .eq 12, 3, 47, 0, 0, 0, 0),
  (.aload_n 0, 1, 0, 0, 0, 0, 0),
  (.iload_n 3, 1, 3, 0, 0, 0, 0),
  (.iload_n 2, 1, 2, 0, 0, 0, 0),
  (.invokevirtual 28, 3, 135, 2, 0, 5, 339),
  (.ifCond .eq 5, 3, 49, 0, 0, 0, 0)]
def kX5_worstOf_47 : List JI := [(.iload_n 3, 1, 3, 0, 0, 0, 0),
  (.istore_n 2, 1, 2, 0, 0, 0, 0)]
def kX5_worstOf_49 : List JI := [(.iinc 3 1, 3, 3, 1, 0, 0, 0),
  (.goto (-47), 3, 5, 0, 0, 0, 0)]
def kX5_worstOf_55 : List JI := [(.iload_n 2, 1, 2, 0, 0, 0, 0),
  (.ireturn, 1, 0, 0, 0, 0, 0)]
theorem qq_X5_worstOf : ((jchk 136 0 kX5_worstOf_0 && jchk 136 5 kX5_worstOf_5) && (jchk 136 47 kX5_worstOf_47 && (jchk 136 49 kX5_worstOf_49 && jchk 136 55 kX5_worstOf_55))) = true := by decide +kernel
theorem qX5_worstOf_0 : jchk 136 0 kX5_worstOf_0 = true := jb1 (jb1 (qq_X5_worstOf))
theorem qX5_worstOf_5 : jchk 136 5 kX5_worstOf_5 = true := jb2 (jb1 (qq_X5_worstOf))
theorem qX5_worstOf_47 : jchk 136 47 kX5_worstOf_47 = true := jb1 (jb2 (qq_X5_worstOf))
theorem qX5_worstOf_49 : jchk 136 49 kX5_worstOf_49 = true := jb1 (jb2 (jb2 (qq_X5_worstOf)))
theorem qX5_worstOf_55 : jchk 136 55 kX5_worstOf_55 = true := jb2 (jb2 (jb2 (qq_X5_worstOf)))
def kX11_worst_0 : List JI := [(.iload_n 1, 1, 1, 0, 0, 0, 0),
  (.bipush 6, 2, 0, 6, 0, 0, 0),
  (.invokestatic 85, 3, 14, 2, 0, 11, 157),
  (.ifCond .ne 11, 3, 17, 0, 0, 0, 0),
  (.aload_n 0, 1, 0, 0, 0, 0, 0),
  (.iconst (-1), 1, 0, -1, 0, 0, 0),
  (.invokevirtual 93, 3, 16, 1, 0, 11, 159),
  (.goto 11, 3, 25, 0, 0, 0, 0)]
def kX11_worst_17 : List JI := [(.aload_n 0, 1, 0, 0, 0, 0, 0),
  (.getfield 65, 3, 11, 9, 4, 0, 94),
  (.iload_n 1, 1, 1, 0, 0, 0, 0),
  (.invokevirtual 302, 3, 136, 1, 0, 5, 340)]
def kX11_worst_25 : List JI := [(.ireturn, 1, 0, 0, 0, 0, 0)]
theorem qq_X11_worst : (jchk 137 0 kX11_worst_0 && (jchk 137 17 kX11_worst_17 && jchk 137 25 kX11_worst_25)) = true := by decide +kernel
theorem qX11_worst_0 : jchk 137 0 kX11_worst_0 = true := jb1 (qq_X11_worst)
theorem qX11_worst_17 : jchk 137 17 kX11_worst_17 = true := jb1 (jb2 (qq_X11_worst))
theorem qX11_worst_25 : jchk 137 25 kX11_worst_25 = true := jb2 (jb2 (qq_X11_worst))
def kX12_spanOf_0 : List JI := [(.aload_n 0, 1, 0, 0, 0, 0, 0),
  (.getfield 128, 3, 12, 47, 4, 0, 141),
  (.iload_n 1, 1, 1, 0, 0, 0, 0),
  (.iaload, 1, 0, 0, 0, 0, 0),
  (.aload_n 0, 1, 0, 0, 0, 0, 0),
  (.getfield 134, 3, 12, 49, 4, 0, 143),
  (.iload_n 1, 1, 1, 0, 0, 0, 0),
  (.iaload, 1, 0, 0, 0, 0, 0),
  (.if_icmp .le 20, 3, 32, 0, 0, 0, 0),
  (.aload_n 0, 1, 0, 0, 0, 0, 0),
  (.getfield 128, 3, 12, 47, 4, 0, 141),
  (.iload_n 1, 1, 1, 0, 0, 0, 0),
  (.iaload, 1, 0, 0, 0, 0, 0),
  (.aload_n 0, 1, 0, 0, 0, 0, 0),
  (.getfield 134, 3, 12, 49, 4, 0, 143),
  (.iload_n 1, 1, 1, 0, 0, 0, 0),
  (.iaload, 1, 0, 0, 0, 0, 0),
  (.isub, 1, 0, 0, 0, 0, 0),
  (.i2l, 1, 0, 0, 0, 0, 0),
  (.goto 4, 3, 33, 0, 0, 0, 0)]
def kX12_spanOf_32 : List JI := [(.lconst 1, 1, 0, 1, 0, 0, 0)]
def kX12_spanOf_33 : List JI := [(.lreturn, 1, 0, 0, 0, 0, 0)]
theorem qq_X12_spanOf : (jchk 138 0 kX12_spanOf_0 && (jchk 138 32 kX12_spanOf_32 && jchk 138 33 kX12_spanOf_33)) = true := by decide +kernel
theorem qX12_spanOf_0 : jchk 138 0 kX12_spanOf_0 = true := jb1 (qq_X12_spanOf)
theorem qX12_spanOf_32 : jchk 138 32 kX12_spanOf_32 = true := jb1 (jb2 (qq_X12_spanOf))
theorem qX12_spanOf_33 : jchk 138 33 kX12_spanOf_33 = true := jb2 (jb2 (qq_X12_spanOf))
def kX12_worst_0 : List JI := [(.iload_n 1, 1, 1, 0, 0, 0, 0),
  (.iconst 0, 1, 0, 0, 0, 0, 0),
  (.iconst 5, 1, 0, 5, 0, 0, 0),
  (.invokestatic 168, 3, 19, 3, 0, 12, 162),
  (.ifCond .ne 9, 3, 15, 0, 0, 0, 0),
  (.aload_n 0, 1, 0, 0, 0, 0, 0),
  (.iconst (-1), 1, 0, -1, 0, 0, 0),
  (.invokevirtual 172, 3, 20, 1, 0, 12, 163),
  (.ireturn, 1, 0, 0, 0, 0, 0)]
def kX12_worst_15 : List JI := [(.bipush (-9), 2, 0, -9, 0, 0, 0),
  (.istore_n 2, 1, 2, 0, 0, 0, 0),
  (.iconst 0, 1, 0, 0, 0, 0, 0),
  (.istore_n 3, 1, 3, 0, 0, 0, 0)]
def kX12_worst_20 : List JI := [(.iload_n 3, 1, 3, 0, 0, 0, 0),
  (.aload_n 0, 1, 0, 0, 0, 0, 0),
  (.getfield 266, 3, 12, 45, 1, 0, 332),
  (.if_icmp .ge 64, 3, 89, 0, 0, 0, 0),
  (.aload_n 0, 1, 0, 0, 0, 0, 0),
  (.getfield 125, 3, 12, 46, 4, 0, 140),
  (.iload_n 3, 1, 3, 0, 0, 0, 0),
  (.iaload, 1, 0, 0, 0, 0, 0),
  (.iload_n 1, 1, 1, 0, 0, 0, 0),
  (.if_icmp .ne 48, 3, 83, 0, 0, 0, 0),
  (.aload_n 0, 1, 0, 0, 0, 0, 0),
  (.getfield 131, 3, 12, 48, 4, 0, 142),
  (.iload_n 3, 1, 3, 0, 0, 0, 0),
  (.iaload, 1, 0, 0, 0, 0, 0),
  (.ifCond .le 39, 3, 83, 0, 0, 0, 0),
  (.iload_n 2, 1, 2, 0, 0, 0, 0),
  (.ifCond .lt 33, 3, 81, 0, 0, 0, 0),
  (.aload_n 0, 1, 0, 0, 0, 0, 0),
  (.getfield 131, 3, 12, 48, 4, 0, 142),
  (.iload_n 3, 1, 3, 0, 0, 0, 0),
  (.iaload, 1, 0, 0, 0, 0, 0),
  (.i2l, 1, 0, 0, 0, 0, 0),
  (.aload_n 0, 1, 0, 0, 0, 0, 0),
  (.iload_n 2, 1, 2, 0, 0, 0, 0),
  (.invokevirtual 269, 3, 138, 1, 0, 12, 341),
  (.lmul, 1, 0, 0, 0, 0, 0),
  (.aload_n 0, 1, 0, 0, 0, 0, 0),
  (.getfield 131, 3, 12, 48, 4, 0, 142),
  (.iload_n 2, 1, 2, 0, 0, 0, 0),
  (.iaload, 1, 0, 0, 0, 0, 0),
  (.i2l, 1, 0, 0, 0, 0, 0),
  (.aload_n 0, 1, 0, 0, 0, 0, 0),
  (.iload_n 3, 1, 3, 0, 0, 0, 0),
  (.invokevirtual 269, 3, 138, 1, 0, 12, 341),
  (.lmul, 1, 0, 0, 0, 0, 0),
  (.lcmp, 1, 0, 0, 0, 0, 0),
  (.ifCond .le 5, 3, 83, 0, 0, 0, 0)]
def kX12_worst_81 : List JI := [(.iload_n 3, 1, 3, 0, 0, 0, 0),
  (.istore_n 2, 1, 2, 0, 0, 0, 0)]
def kX12_worst_83 : List JI := [(.iinc 3 1, 3, 3, 1, 0, 0, 0),
  (.goto (-66), 3, 20, 0, 0, 0, 0)]
def kX12_worst_89 : List JI := [(.iload_n 2, 1, 2, 0, 0, 0, 0),
  (.ireturn, 1, 0, 0, 0, 0, 0)]
theorem qq_X12_worst : ((jchk 139 0 kX12_worst_0 && (jchk 139 15 kX12_worst_15 && jchk 139 20 kX12_worst_20)) && (jchk 139 81 kX12_worst_81 && (jchk 139 83 kX12_worst_83 && jchk 139 89 kX12_worst_89))) = true := by decide +kernel
theorem qX12_worst_0 : jchk 139 0 kX12_worst_0 = true := jb1 (jb1 (qq_X12_worst))
theorem qX12_worst_15 : jchk 139 15 kX12_worst_15 = true := jb1 (jb2 (jb1 (qq_X12_worst)))
theorem qX12_worst_20 : jchk 139 20 kX12_worst_20 = true := jb2 (jb2 (jb1 (qq_X12_worst)))
theorem qX12_worst_81 : jchk 139 81 kX12_worst_81 = true := jb1 (jb2 (qq_X12_worst))
theorem qX12_worst_83 : jchk 139 83 kX12_worst_83 = true := jb1 (jb2 (jb2 (qq_X12_worst)))
theorem qX12_worst_89 : jchk 139 89 kX12_worst_89 = true := jb2 (jb2 (jb2 (qq_X12_worst)))
def kX7_standAt_0 : List JI := [(.aload_n 0, 1, 0, 0, 0, 0, 0),
  (.getfield 40, 3, 7, 9, 3, 0, 154),
  (.ifCond .eq 4, 3, 8, 0, 0, 0, 0),
  (.return_, 1, 0, 0, 0, 0, 0)]
def kX7_standAt_8 : List JI := [(.aload_n 0, 1, 0, 0, 0, 0, 0),
  (.iload_n 1, 1, 1, 0, 0, 0, 0),
  (.putfield 50, 3, 7, 3, 1, 0, 342),
  (.aload_n 3, 1, 3, 0, 0, 0, 0),
  (.invokevirtual 54, 3, 46, 0, 0, 2, 343),
  (.aload_n 0, 1, 0, 0, 0, 0, 0),
  (.getfield 24, 3, 7, 5, 4, 0, 63),
  (.iconst (-1), 1, 0, -1, 0, 0, 0),
  (.invokestatic 59, 3, 0, 2, 0, 0, 344),
  (.iconst 0, 1, 0, 0, 0, 0, 0),
  (.istore 4, 2, 4, 0, 0, 0, 0)]
def kX7_standAt_28 : List JI := [(.iload 4, 2, 4, 0, 0, 0, 0),
  (.sipush 300, 3, 0, 300, 0, 0, 0),
  (.if_icmp .ge 84, 3, 117, 0, 0, 0, 0),
  (.aload_n 0, 1, 0, 0, 0, 0, 0),
  (.getfield 20, 3, 7, 4, 4, 0, 62),
  (.iload 4, 2, 4, 0, 0, 0, 0),
  (.aload_n 0, 1, 0, 0, 0, 0, 0),
  (.getfield 50, 3, 7, 3, 1, 0, 342),
  (.iconst 1, 1, 0, 1, 0, 0, 0),
  (.iadd, 1, 0, 0, 0, 0, 0),
  (.iload 4, 2, 4, 0, 0, 0, 0),
  (.iadd, 1, 0, 0, 0, 0, 0),
  (.aload_n 2, 1, 2, 0, 0, 0, 0),
  (.aload_n 3, 1, 3, 0, 0, 0, 0),
  (.invokevirtual 65, 3, 72, 4, 0, 0, 345),
  (.iconst 0, 1, 0, 0, 0, 0, 0),
  (.istore 5, 2, 5, 0, 0, 0, 0)]
def kX7_standAt_59 : List JI := [(.iload 5, 2, 5, 0, 0, 0, 0),
  (.iconst 4, 1, 0, 4, 0, 0, 0),
  (.if_icmp .ge 49, 3, 111, 0, 0, 0, 0),
  (.aload_n 0, 1, 0, 0, 0, 0, 0),
  (.getfield 20, 3, 7, 4, 4, 0, 62),
  (.getfield 69, 3, 0, 1, 4, 0, 346),
  (.iload 4, 2, 4, 0, 0, 0, 0),
  (.iaload, 1, 0, 0, 0, 0, 0),
  (.ifCond .le 30, 3, 105, 0, 0, 0, 0),
  (.aload_n 0, 1, 0, 0, 0, 0, 0),
  (.getfield 20, 3, 7, 4, 4, 0, 62),
  (.getfield 72, 3, 0, 0, 4, 0, 347),
  (.iload 4, 2, 4, 0, 0, 0, 0),
  (.iconst 4, 1, 0, 4, 0, 0, 0),
  (.imul, 1, 0, 0, 0, 0, 0),
  (.iload 5, 2, 5, 0, 0, 0, 0),
  (.iadd, 1, 0, 0, 0, 0, 0),
  (.iaload, 1, 0, 0, 0, 0, 0),
  (.ifCond .le 12, 3, 105, 0, 0, 0, 0),
  (.aload_n 0, 1, 0, 0, 0, 0, 0),
  (.getfield 24, 3, 7, 5, 4, 0, 63),
  (.iload 5, 2, 5, 0, 0, 0, 0),
  (.iload 4, 2, 4, 0, 0, 0, 0),
  (.iastore, 1, 0, 0, 0, 0, 0)]
def kX7_standAt_105 : List JI := [(.iinc 5 1, 3, 5, 1, 0, 0, 0),
  (.goto (-49), 3, 59, 0, 0, 0, 0)]
def kX7_standAt_111 : List JI := [(.iinc 4 1, 3, 4, 1, 0, 0, 0),
  (.goto (-86), 3, 28, 0, 0, 0, 0)]
def kX7_standAt_117 : List JI := [(.aload_n 0, 1, 0, 0, 0, 0, 0),
  (.iconst 1, 1, 0, 1, 0, 0, 0),
  (.putfield 40, 3, 7, 9, 3, 0, 154),
  (.return_, 1, 0, 0, 0, 0, 0)]
theorem qq_X7_standAt : ((jchk 140 0 kX7_standAt_0 && (jchk 140 8 kX7_standAt_8 && jchk 140 28 kX7_standAt_28)) && ((jchk 140 59 kX7_standAt_59 && jchk 140 105 kX7_standAt_105) && (jchk 140 111 kX7_standAt_111 && jchk 140 117 kX7_standAt_117))) = true := by decide +kernel
theorem qX7_standAt_0 : jchk 140 0 kX7_standAt_0 = true := jb1 (jb1 (qq_X7_standAt))
theorem qX7_standAt_8 : jchk 140 8 kX7_standAt_8 = true := jb1 (jb2 (jb1 (qq_X7_standAt)))
theorem qX7_standAt_28 : jchk 140 28 kX7_standAt_28 = true := jb2 (jb2 (jb1 (qq_X7_standAt)))
theorem qX7_standAt_59 : jchk 140 59 kX7_standAt_59 = true := jb1 (jb1 (jb2 (qq_X7_standAt)))
theorem qX7_standAt_105 : jchk 140 105 kX7_standAt_105 = true := jb2 (jb1 (jb2 (qq_X7_standAt)))
theorem qX7_standAt_111 : jchk 140 111 kX7_standAt_111 = true := jb1 (jb2 (jb2 (qq_X7_standAt)))
theorem qX7_standAt_117 : jchk 140 117 kX7_standAt_117 = true := jb2 (jb2 (jb2 (qq_X7_standAt)))
def kX4_become_0 : List JI := [(.aload_n 0, 1, 0, 0, 0, 0, 0),
  (.aload_n 1, 1, 1, 0, 0, 0, 0),
  (.getfield 22, 3, 4, 0, 1, 0, 199),
  (.aload_n 1, 1, 1, 0, 0, 0, 0),
  (.getfield 25, 3, 4, 1, 1, 0, 200),
  (.aload_n 1, 1, 1, 0, 0, 0, 0),
  (.getfield 28, 3, 4, 2, 1, 0, 201),
  (.invokevirtual 37, 3, 56, 3, 0, 4, 348),
  (.aload_n 0, 1, 0, 0, 0, 0, 0),
  (.aload_n 1, 1, 1, 0, 0, 0, 0),
  (.getfield 18, 3, 4, 3, 1, 0, 202),
  (.putfield 18, 3, 4, 3, 1, 0, 202),
  (.aload_n 0, 1, 0, 0, 0, 0, 0),
  (.aload_n 1, 1, 1, 0, 0, 0, 0),
  (.getfield 31, 3, 4, 4, 1, 0, 203),
  (.putfield 31, 3, 4, 4, 1, 0, 203),
  (.aload_n 0, 1, 0, 0, 0, 0, 0),
  (.aload_n 1, 1, 1, 0, 0, 0, 0),
  (.getfield 41, 3, 4, 5, 1, 0, 229),
  (.putfield 41, 3, 4, 5, 1, 0, 229),
  (.aload_n 0, 1, 0, 0, 0, 0, 0),
  (.aload_n 1, 1, 1, 0, 0, 0, 0),
  (.getfield 44, 3, 4, 6, 1, 0, 227),
  (.putfield 44, 3, 4, 6, 1, 0, 227),
  (.aload_n 0, 1, 0, 0, 0, 0, 0),
  (.aload_n 1, 1, 1, 0, 0, 0, 0),
  (.getfield 47, 3, 4, 7, 3, 0, 226),
  (.putfield 47, 3, 4, 7, 3, 0, 226),
  (.aload_n 0, 1, 0, 0, 0, 0, 0),
  (.aload_n 1, 1, 1, 0, 0, 0, 0),
  (.getfield 51, 3, 4, 8, 1, 0, 349),
  (.putfield 51, 3, 4, 8, 1, 0, 349),
  (.aload_n 0, 1, 0, 0, 0, 0, 0),
  (.aload_n 1, 1, 1, 0, 0, 0, 0),
  (.getfield 34, 3, 4, 9, 1, 0, 204),
  (.putfield 34, 3, 4, 9, 1, 0, 204),
  (.aload_n 0, 1, 0, 0, 0, 0, 0),
  (.aload_n 1, 1, 1, 0, 0, 0, 0),
  (.getfield 54, 3, 4, 10, 3, 0, 350),
  (.putfield 54, 3, 4, 10, 3, 0, 350),
  (.aload_n 1, 1, 1, 0, 0, 0, 0),
  (.getfield 9, 3, 4, 11, 4, 0, 18),
  (.iconst 0, 1, 0, 0, 0, 0, 0),
  (.aload_n 0, 1, 0, 0, 0, 0, 0),
  (.getfield 9, 3, 4, 11, 4, 0, 18),
  (.iconst 0, 1, 0, 0, 0, 0, 0),
  (.bipush 6, 2, 0, 6, 0, 0, 0),
  (.invokestatic 57, 3, 999, 0, 0, 0, 351),
  (.aload_n 1, 1, 1, 0, 0, 0, 0),
  (.getfield 15, 3, 4, 12, 4, 0, 19),
  (.iconst 0, 1, 0, 0, 0, 0, 0),
  (.aload_n 0, 1, 0, 0, 0, 0, 0),
  (.getfield 15, 3, 4, 12, 4, 0, 19),
  (.iconst 0, 1, 0, 0, 0, 0, 0),
  (.bipush 6, 2, 0, 6, 0, 0, 0),
  (.invokestatic 57, 3, 999, 0, 0, 0, 351),
  (.return_, 1, 0, 0, 0, 0, 0)]
theorem qX4_become_0 : jchk 141 0 kX4_become_0 = true := by decide +kernel
