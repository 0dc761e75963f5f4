def kX11_decree_0 : List JI := [(.iload_n 1, 1, 1, 0, 0, 0, 0),
  (.iconst 4, 1, 0, 4, 0, 0, 0),
  (.invokestatic 85, 3, 14, 2, 0, 11, 157),
  (.ifCond .eq 11, 3, 16, 0, 0, 0, 0),
  (.iload_n 2, 1, 2, 0, 0, 0, 0),
  (.iconst 4, 1, 0, 4, 0, 0, 0),
  (.invokestatic 85, 3, 14, 2, 0, 11, 157),
  (.ifCond .ne 9, 3, 22, 0, 0, 0, 0)]
def kX11_decree_16 : List JI := [(.aload_n 0, 1, 0, 0, 0, 0, 0),
  (.iconst (-1), 1, 0, -1, 0, 0, 0),
  (.invokevirtual 93, 3, 16, 1, 0, 11, 159),
  (.ireturn, 1, 0, 0, 0, 0, 0)]
def kX11_decree_22 : List JI := [(.iload_n 3, 1, 3, 0, 0, 0, 0),
  (.getstatic 144, 3, 0, -3, 0, 0, 181),
  (.iload_n 1, 1, 1, 0, 0, 0, 0),
  (.iaload, 1, 0, 0, 0, 0, 0),
  (.if_icmp .lt 12, 3, 40, 0, 0, 0, 0),
  (.iload 4, 2, 4, 0, 0, 0, 0),
  (.aload_n 0, 1, 0, 0, 0, 0, 0),
  (.getfield 147, 3, 11, 0, 1, 0, 182),
  (.if_icmp .ge 10, 3, 47, 0, 0, 0, 0)]
def kX11_decree_40 : List JI := [(.aload_n 0, 1, 0, 0, 0, 0, 0),
  (.bipush (-4), 2, 0, -4, 0, 0, 0),
  (.invokevirtual 93, 3, 16, 1, 0, 11, 159),
  (.ireturn, 1, 0, 0, 0, 0, 0)]
def kX11_decree_47 : List JI := [(.iload_n 3, 1, 3, 0, 0, 0, 0),
  (.getstatic 151, 3, 0, -4, 0, 0, 183),
  (.iload_n 1, 1, 1, 0, 0, 0, 0),
  (.iaload, 1, 0, 0, 0, 0, 0),
  (.if_icmp .gt 23, 3, 76, 0, 0, 0, 0),
  (.iload 4, 2, 4, 0, 0, 0, 0),
  (.sipush 2000, 3, 0, 2000, 0, 0, 0),
  (.if_icmp .gt 15, 3, 76, 0, 0, 0, 0),
  (.aload_n 0, 1, 0, 0, 0, 0, 0),
  (.getfield 23, 3, 11, 3, 4, 0, 76),
  (.getfield 154, 3, 2, 0, 1, 0, 184),
  (.bipush 40, 2, 0, 40, 0, 0, 0),
  (.if_icmp .lt 10, 3, 83, 0, 0, 0, 0)]
def kX11_decree_76 : List JI := [(.aload_n 0, 1, 0, 0, 0, 0, 0),
  (.bipush (-6), 2, 0, -6, 0, 0, 0),
  (.invokevirtual 93, 3, 16, 1, 0, 11, 159),
  (.ireturn, 1, 0, 0, 0, 0, 0)]
def kX11_decree_83 : List JI := [(.aload_n 0, 1, 0, 0, 0, 0, 0),
  (.getfield 81, 3, 11, 11, 4, 0, 100),
  (.invokevirtual 97, 3, 17, 0, 0, 7, 160),
  (.aload_n 0, 1, 0, 0, 0, 0, 0),
  (.getfield 23, 3, 11, 3, 4, 0, 76),
  (.iload_n 1, 1, 1, 0, 0, 0, 0),
  (.iload_n 2, 1, 2, 0, 0, 0, 0),
  (.invokestatic 157, 3, 42, 2, 0, 2, 185),
  (.iload_n 3, 1, 3, 0, 0, 0, 0),
  (.iload 4, 2, 4, 0, 0, 0, 0),
  (.invokevirtual 160, 3, 43, 3, 0, 2, 186),
  (.aload_n 0, 1, 0, 0, 0, 0, 0),
  (.getfield 23, 3, 11, 3, 4, 0, 76),
  (.getfield 154, 3, 2, 0, 1, 0, 184),
  (.iconst 1, 1, 0, 1, 0, 0, 0),
  (.isub, 1, 0, 0, 0, 0, 0),
  (.ireturn, 1, 0, 0, 0, 0, 0)]
theorem qq_X11_decree : ((jchk 44 0 kX11_decree_0 && (jchk 44 16 kX11_decree_16 && jchk 44 22 kX11_decree_22)) && ((jchk 44 40 kX11_decree_40 && jchk 44 47 kX11_decree_47) && (jchk 44 76 kX11_decree_76 && jchk 44 83 kX11_decree_83))) = true := by decide +kernel
theorem qX11_decree_0 : jchk 44 0 kX11_decree_0 = true := jb1 (jb1 (qq_X11_decree))
theorem qX11_decree_16 : jchk 44 16 kX11_decree_16 = true := jb1 (jb2 (jb1 (qq_X11_decree)))
theorem qX11_decree_22 : jchk 44 22 kX11_decree_22 = true := jb2 (jb2 (jb1 (qq_X11_decree)))
theorem qX11_decree_40 : jchk 44 40 kX11_decree_40 = true := jb1 (jb1 (jb2 (qq_X11_decree)))
theorem qX11_decree_47 : jchk 44 47 kX11_decree_47 = true := jb2 (jb1 (jb2 (qq_X11_decree)))
theorem qX11_decree_76 : jchk 44 76 kX11_decree_76 = true := jb1 (jb2 (jb2 (qq_X11_decree)))
theorem qX11_decree_83 : jchk 44 83 kX11_decree_83 = true := jb2 (jb2 (jb2 (qq_X11_decree)))
def kX12_decree_0 : List JI := [(.iload_n 1, 1, 1, 0, 0, 0, 0),
  (.iconst 0, 1, 0, 0, 0, 0, 0),
  (.iconst 3, 1, 0, 3, 0, 0, 0),
  (.invokestatic 168, 3, 19, 3, 0, 12, 162),
  (.ifCond .eq 12, 3, 18, 0, 0, 0, 0),
  (.iload_n 2, 1, 2, 0, 0, 0, 0),
  (.iconst 0, 1, 0, 0, 0, 0, 0),
  (.iconst 3, 1, 0, 3, 0, 0, 0),
  (.invokestatic 168, 3, 19, 3, 0, 12, 162),
  (.ifCond .ne 9, 3, 24, 0, 0, 0, 0)]
def kX12_decree_18 : List JI := [(.aload_n 0, 1, 0, 0, 0, 0, 0),
  (.iconst (-1), 1, 0, -1, 0, 0, 0),
  (.invokevirtual 172, 3, 20, 1, 0, 12, 163),
  (.ireturn, 1, 0, 0, 0, 0, 0)]
def kX12_decree_24 : List JI := [(.iload_n 3, 1, 3, 0, 0, 0, 0),
  (.iload_n 1, 1, 1, 0, 0, 0, 0),
  (.iconst 3, 1, 0, 3, 0, 0, 0),
  (.if_icmp .ne 7, 3, 34, 0, 0, 0, 0),
  (.iconst 1, 1, 0, 1, 0, 0, 0),
  (.goto 4, 3, 35, 0, 0, 0, 0)]
def kX12_decree_34 : List JI := [(.iconst 0, 1, 0, 0, 0, 0, 0)]
def kX12_decree_35 : List JI := [(.if_icmp .lt 12, 3, 47, 0, 0, 0, 0),
  (.iload 4, 2, 4, 0, 0, 0, 0),
  (.aload_n 0, 1, 0, 0, 0, 0, 0),
  (.getfield 184, 3, 12, 0, 1, 0, 187),
  (.if_icmp .ge 10, 3, 54, 0, 0, 0, 0)]
def kX12_decree_47 : List JI := [(.aload_n 0, 1, 0, 0, 0, 0, 0),
  (.bipush (-4), 2, 0, -4, 0, 0, 0),
  (.invokevirtual 172, 3, 20, 1, 0, 12, 163),
  (.ireturn, 1, 0, 0, 0, 0, 0)]
def kX12_decree_54 : List JI := [(.iload_n 3, 1, 3, 0, 0, 0, 0),
  (.iload_n 1, 1, 1, 0, 0, 0, 0),
  (.ifCond .ne 8, 3, 64, 0, 0, 0, 0),
  (.bipush 100, 2, 0, 100, 0, 0, 0),
  (.goto 26, 3, 87, 0, 0, 0, 0)]
def kX12_decree_64 : List JI := [(.iload_n 1, 1, 1, 0, 0, 0, 0),
  (.iconst 1, 1, 0, 1, 0, 0, 0),
  (.if_icmp .ne 8, 3, 74, 0, 0, 0, 0),
  (.bipush 9, 2, 0, 9, 0, 0, 0),
  (.goto 16, 3, 87, 0, 0, 0, 0)]
def kX12_decree_74 : List JI := [(.iload_n 1, 1, 1, 0, 0, 0, 0),
  (.iconst 2, 1, 0, 2, 0, 0, 0),
  (.if_icmp .ne 8, 3, 84, 0, 0, 0, 0),
  (.bipush 60, 2, 0, 60, 0, 0, 0),
  (.goto 6, 3, 87, 0, 0, 0, 0)]
def kX12_decree_84 : List JI := [(.sipush 200, 3, 0, 200, 0, 0, 0)]
def kX12_decree_87 : List JI := [(.if_icmp .gt 20, 3, 107, 0, 0, 0, 0),
  (.iload 4, 2, 4, 0, 0, 0, 0),
  (.sipush 2000, 3, 0, 2000, 0, 0, 0),
  (.if_icmp .gt 12, 3, 107, 0, 0, 0, 0),
  (.aload_n 0, 1, 0, 0, 0, 0, 0),
  (.getfield 188, 3, 12, 6, 1, 0, 188),
  (.bipush 40, 2, 0, 40, 0, 0, 0),
  (.if_icmp .ne 10, 3, 114, 0, 0, 0, 0)]
def kX12_decree_107 : List JI := [(.aload_n 0, 1, 0, 0, 0, 0, 0),
  (.bipush (-6), 2, 0, -6, 0, 0, 0),
  (.invokevirtual 172, 3, 20, 1, 0, 12, 163),
  (.ireturn, 1, 0, 0, 0, 0, 0)]
def kX12_decree_114 : List JI := [(.aload_n 0, 1, 0, 0, 0, 0, 0),
  (.getfield 25, 3, 12, 7, 4, 0, 107),
  (.aload_n 0, 1, 0, 0, 0, 0, 0),
  (.getfield 188, 3, 12, 6, 1, 0, 188),
  (.iload_n 1, 1, 1, 0, 0, 0, 0),
  (.iastore, 1, 0, 0, 0, 0, 0),
  (.aload_n 0, 1, 0, 0, 0, 0, 0),
  (.getfield 28, 3, 12, 8, 4, 0, 108),
  (.aload_n 0, 1, 0, 0, 0, 0, 0),
  (.getfield 188, 3, 12, 6, 1, 0, 188),
  (.iload_n 2, 1, 2, 0, 0, 0, 0),
  (.iastore, 1, 0, 0, 0, 0, 0),
  (.aload_n 0, 1, 0, 0, 0, 0, 0),
  (.getfield 31, 3, 12, 9, 4, 0, 109),
  (.aload_n 0, 1, 0, 0, 0, 0, 0),
  (.getfield 188, 3, 12, 6, 1, 0, 188),
  (.iload_n 3, 1, 3, 0, 0, 0, 0),
  (.iastore, 1, 0, 0, 0, 0, 0),
  (.aload_n 0, 1, 0, 0, 0, 0, 0),
  (.getfield 34, 3, 12, 10, 4, 0, 110),
  (.aload_n 0, 1, 0, 0, 0, 0, 0),
  (.getfield 188, 3, 12, 6, 1, 0, 188),
  (.iload 4, 2, 4, 0, 0, 0, 0),
  (.iastore, 1, 0, 0, 0, 0, 0),
  (.aload_n 0, 1, 0, 0, 0, 0, 0),
  (.dup, 1, 0, 0, 0, 0, 0),
  (.getfield 188, 3, 12, 6, 1, 0, 188),
  (.iconst 1, 1, 0, 1, 0, 0, 0),
  (.iadd, 1, 0, 0, 0, 0, 0),
  (.putfield 188, 3, 12, 6, 1, 0, 188),
  (.aload_n 0, 1, 0, 0, 0, 0, 0),
  (.getfield 188, 3, 12, 6, 1, 0, 188),
  (.iconst 1, 1, 0, 1, 0, 0, 0),
  (.isub, 1, 0, 0, 0, 0, 0),
  (.ireturn, 1, 0, 0, 0, 0, 0)]
theorem qq_X12_decree : (((jchk 45 0 kX12_decree_0 && (jchk 45 18 kX12_decree_18 && jchk 45 24 kX12_decree_24)) && (jchk 45 34 kX12_decree_34 && (jchk 45 35 kX12_decree_35 && jchk 45 47 kX12_decree_47))) && ((jchk 45 54 kX12_decree_54 && (jchk 45 64 kX12_decree_64 && jchk 45 74 kX12_decree_74)) && ((jchk 45 84 kX12_decree_84 && jchk 45 87 kX12_decree_87) && (jchk 45 107 kX12_decree_107 && jchk 45 114 kX12_decree_114)))) = true := by decide +kernel
theorem qX12_decree_0 : jchk 45 0 kX12_decree_0 = true := jb1 (jb1 (jb1 (qq_X12_decree)))
theorem qX12_decree_18 : jchk 45 18 kX12_decree_18 = true := jb1 (jb2 (jb1 (jb1 (qq_X12_decree))))
theorem qX12_decree_24 : jchk 45 24 kX12_decree_24 = true := jb2 (jb2 (jb1 (jb1 (qq_X12_decree))))
theorem qX12_decree_34 : jchk 45 34 kX12_decree_34 = true := jb1 (jb2 (jb1 (qq_X12_decree)))
theorem qX12_decree_35 : jchk 45 35 kX12_decree_35 = true := jb1 (jb2 (jb2 (jb1 (qq_X12_decree))))
theorem qX12_decree_47 : jchk 45 47 kX12_decree_47 = true := jb2 (jb2 (jb2 (jb1 (qq_X12_decree))))
theorem qX12_decree_54 : jchk 45 54 kX12_decree_54 = true := jb1 (jb1 (jb2 (qq_X12_decree)))
theorem qX12_decree_64 : jchk 45 64 kX12_decree_64 = true := jb1 (jb2 (jb1 (jb2 (qq_X12_decree))))
theorem qX12_decree_74 : jchk 45 74 kX12_decree_74 = true := jb2 (jb2 (jb1 (jb2 (qq_X12_decree))))
theorem qX12_decree_84 : jchk 45 84 kX12_decree_84 = true := jb1 (jb1 (jb2 (jb2 (qq_X12_decree))))
theorem qX12_decree_87 : jchk 45 87 kX12_decree_87 = true := jb2 (jb1 (jb2 (jb2 (qq_X12_decree))))
theorem qX12_decree_107 : jchk 45 107 kX12_decree_107 = true := jb1 (jb2 (jb2 (jb2 (qq_X12_decree))))
theorem qX12_decree_114 : jchk 45 114 kX12_decree_114 = true := jb2 (jb2 (jb2 (jb2 (qq_X12_decree))))
def kX2_rewind_0 : List JI := [(.aload_n 0, 1, 0, 0, 0, 0, 0),
  (.iconst 0, 1, 0, 0, 0, 0, 0),
  (.putfield 28, 3, 2, 5, 1, 0, 189),
  (.iconst 0, 1, 0, 0, 0, 0, 0),
  (.istore_n 1, 1, 1, 0, 0, 0, 0)]
def kX2_rewind_7 : List JI := [(.iload_n 1, 1, 1, 0, 0, 0, 0),
  (.iconst 4, 1, 0, 4, 0, 0, 0),
  (.if_icmp .ge 39, 3, 48, 0, 0, 0, 0),
  (.aload_n 0, 1, 0, 0, 0, 0, 0),
  (.getfield 21, 3, 2, 4, 4, 0, 11),
  (.iconst 0, 1, 0, 0, 0, 0, 0),
  (.iload_n 1, 1, 1, 0, 0, 0, 0),
  (.invokestatic 31, 3, 42, 2, 0, 2, 190),
  (.getstatic 35, 3, 0, -5, 1, 0, 191),
  (.iconst 0, 1, 0, 0, 0, 0, 0),
  (.iaload, 1, 0, 0, 0, 0, 0),
  (.iastore, 1, 0, 0, 0, 0, 0),
  (.aload_n 0, 1, 0, 0, 0, 0, 0),
  (.getfield 21, 3, 2, 4, 4, 0, 11),
  (.iconst 1, 1, 0, 1, 0, 0, 0),
  (.iload_n 1, 1, 1, 0, 0, 0, 0),
  (.invokestatic 31, 3, 42, 2, 0, 2, 190),
  (.getstatic 35, 3, 0, -5, 1, 0, 191),
  (.iconst 1, 1, 0, 1, 0, 0, 0),
  (.iaload, 1, 0, 0, 0, 0, 0),
  (.iastore, 1, 0, 0, 0, 0, 0),
  (.iinc 1 1, 3, 1, 1, 0, 0, 0),
  (.goto (-38), 3, 7, 0, 0, 0, 0)]
def kX2_rewind_48 : List JI := [(.aload_n 0, 1, 0, 0, 0, 0, 0),
  (.getfield 21, 3, 2, 4, 4, 0, 11),
  (.iconst 2, 1, 0, 2, 0, 0, 0),
  (.iconst 0, 1, 0, 0, 0, 0, 0),
  (.invokestatic 31, 3, 42, 2, 0, 2, 190),
  (.getstatic 35, 3, 0, -5, 1, 0, 191),
  (.iconst 2, 1, 0, 2, 0, 0, 0),
  (.iaload, 1, 0, 0, 0, 0, 0),
  (.iastore, 1, 0, 0, 0, 0, 0),
  (.aload_n 0, 1, 0, 0, 0, 0, 0),
  (.getfield 21, 3, 2, 4, 4, 0, 11),
  (.iconst 3, 1, 0, 3, 0, 0, 0),
  (.iconst 0, 1, 0, 0, 0, 0, 0),
  (.invokestatic 31, 3, 42, 2, 0, 2, 190),
  (.getstatic 35, 3, 0, -5, 1, 0, 191),
  (.iconst 3, 1, 0, 3, 0, 0, 0),
  (.iaload, 1, 0, 0, 0, 0, 0),
  (.iastore, 1, 0, 0, 0, 0, 0),
  (.return_, 1, 0, 0, 0, 0, 0)]
theorem qq_X2_rewind : (jchk 46 0 kX2_rewind_0 && (jchk 46 7 kX2_rewind_7 && jchk 46 48 kX2_rewind_48)) = true := by decide +kernel
theorem qX2_rewind_0 : jchk 46 0 kX2_rewind_0 = true := jb1 (qq_X2_rewind)
theorem qX2_rewind_7 : jchk 46 7 kX2_rewind_7 = true := jb1 (jb2 (qq_X2_rewind))
theorem qX2_rewind_48 : jchk 46 48 kX2_rewind_48 = true := jb2 (jb2 (qq_X2_rewind))
def kX2_goOnTo_0 : List JI := [(.aload_n 0, 1, 0, 0, 0, 0, 0),
  (.getfield 28, 3, 2, 5, 1, 0, 189),
  (.aload_n 0, 1, 0, 0, 0, 0, 0),
  (.getfield 24, 3, 2, 0, 1, 0, 180),
  (.if_icmp .ge 52, 3, 60, 0, 0, 0, 0),
  (.aload_n 0, 1, 0, 0, 0, 0, 0),
  (.getfield 18, 3, 2, 3, 4, 0, 10),
  (.aload_n 0, 1, 0, 0, 0, 0, 0),
  (.getfield 28, 3, 2, 5, 1, 0, 189),
  (.iaload, 1, 0, 0, 0, 0, 0),
  (.iload_n 1, 1, 1, 0, 0, 0, 0),
  (.if_icmp .gt 39, 3, 60, 0, 0, 0, 0),
  (.aload_n 0, 1, 0, 0, 0, 0, 0),
  (.getfield 21, 3, 2, 4, 4, 0, 11),
  (.aload_n 0, 1, 0, 0, 0, 0, 0),
  (.getfield 9, 3, 2, 1, 4, 0, 8),
  (.aload_n 0, 1, 0, 0, 0, 0, 0),
  (.getfield 28, 3, 2, 5, 1, 0, 189),
  (.iaload, 1, 0, 0, 0, 0, 0),
  (.aload_n 0, 1, 0, 0, 0, 0, 0),
  (.getfield 15, 3, 2, 2, 4, 0, 9),
  (.aload_n 0, 1, 0, 0, 0, 0, 0),
  (.getfield 28, 3, 2, 5, 1, 0, 189),
  (.iaload, 1, 0, 0, 0, 0, 0),
  (.iastore, 1, 0, 0, 0, 0, 0),
  (.aload_n 0, 1, 0, 0, 0, 0, 0),
  (.dup, 1, 0, 0, 0, 0, 0),
  (.getfield 28, 3, 2, 5, 1, 0, 189),
  (.iconst 1, 1, 0, 1, 0, 0, 0),
  (.iadd, 1, 0, 0, 0, 0, 0),
  (.putfield 28, 3, 2, 5, 1, 0, 189),
  (.goto (-57), 3, 0, 0, 0, 0, 0)]
def kX2_goOnTo_60 : List JI := [(.return_, 1, 0, 0, 0, 0, 0)]
theorem qq_X2_goOnTo : (jchk 47 0 kX2_goOnTo_0 && jchk 47 60 kX2_goOnTo_60) = true := by decide +kernel
theorem qX2_goOnTo_0 : jchk 47 0 kX2_goOnTo_0 = true := jb1 (qq_X2_goOnTo)
theorem qX2_goOnTo_60 : jchk 47 60 kX2_goOnTo_60 = true := jb2 (qq_X2_goOnTo)
def kX2_inForce_0 : List JI := [(.aload_n 0, 1, 0, 0, 0, 0, 0),
  (.getfield 21, 3, 2, 4, 4, 0, 11),
  (.iload_n 1, 1, 1, 0, 0, 0, 0),
  (.iload_n 2, 1, 2, 0, 0, 0, 0),
  (.invokestatic 31, 3, 42, 2, 0, 2, 190),
  (.iaload, 1, 0, 0, 0, 0, 0),
  (.ireturn, 1, 0, 0, 0, 0, 0)]
theorem qX2_inForce_0 : jchk 48 0 kX2_inForce_0 = true := by decide +kernel
def kX11_force_0 : List JI := [(.iload_n 1, 1, 1, 0, 0, 0, 0),
  (.iconst 4, 1, 0, 4, 0, 0, 0),
  (.invokestatic 85, 3, 14, 2, 0, 11, 157),
  (.ifCond .eq 11, 3, 16, 0, 0, 0, 0),
  (.iload_n 2, 1, 2, 0, 0, 0, 0),
  (.iconst 4, 1, 0, 4, 0, 0, 0),
  (.invokestatic 85, 3, 14, 2, 0, 11, 157),
  (.ifCond .ne 7, 3, 20, 0, 0, 0, 0)]
def kX11_force_16 : List JI := [(.iconst (-1), 1, 0, -1, 0, 0, 0),
  (.goto 11, 3, 28, 0, 0, 0, 0)]
def kX11_force_20 : List JI := [(.iload_n 3, 1, 3, 0, 0, 0, 0),
  (.iconst 0, 1, 0, 0, 0, 0, 0),
  (.sipush 2000, 3, 0, 2000, 0, 0, 0),
  (.invokestatic 89, 3, 15, 3, 0, 11, 158)]
def kX11_force_28 : List JI := [(.istore 4, 2, 4, 0, 0, 0, 0),
  (.iload 4, 2, 4, 0, 0, 0, 0),
  (.ifCond .eq 10, 3, 42, 0, 0, 0, 0),
  (.aload_n 0, 1, 0, 0, 0, 0, 0),
  (.iload 4, 2, 4, 0, 0, 0, 0),
  (.invokevirtual 93, 3, 16, 1, 0, 11, 159),
  (.ireturn, 1, 0, 0, 0, 0, 0)]
def kX11_force_42 : List JI := [(.aload_n 0, 1, 0, 0, 0, 0, 0),
  (.getfield 23, 3, 11, 3, 4, 0, 76),
  (.invokevirtual 164, 3, 46, 0, 0, 2, 192),
  (.aload_n 0, 1, 0, 0, 0, 0, 0),
  (.getfield 23, 3, 11, 3, 4, 0, 76),
  (.iload_n 3, 1, 3, 0, 0, 0, 0),
  (.invokevirtual 167, 3, 47, 1, 0, 2, 193),
  (.aload_n 0, 1, 0, 0, 0, 0, 0),
  (.getfield 23, 3, 11, 3, 4, 0, 76),
  (.iload_n 1, 1, 1, 0, 0, 0, 0),
  (.iload_n 2, 1, 2, 0, 0, 0, 0),
  (.invokevirtual 170, 3, 48, 2, 0, 2, 194),
  (.ireturn, 1, 0, 0, 0, 0, 0)]
theorem qq_X11_force : ((jchk 49 0 kX11_force_0 && jchk 49 16 kX11_force_16) && (jchk 49 20 kX11_force_20 && (jchk 49 28 kX11_force_28 && jchk 49 42 kX11_force_42))) = true := by decide +kernel
theorem qX11_force_0 : jchk 49 0 kX11_force_0 = true := jb1 (jb1 (qq_X11_force))
theorem qX11_force_16 : jchk 49 16 kX11_force_16 = true := jb2 (jb1 (qq_X11_force))
theorem qX11_force_20 : jchk 49 20 kX11_force_20 = true := jb1 (jb2 (qq_X11_force))
theorem qX11_force_28 : jchk 49 28 kX11_force_28 = true := jb1 (jb2 (jb2 (qq_X11_force)))
theorem qX11_force_42 : jchk 49 42 kX11_force_42 = true := jb2 (jb2 (jb2 (qq_X11_force)))
def kX12_forceAt_0 : List JI := [(.iload_n 1, 1, 1, 0, 0, 0, 0),
  (.iconst 3, 1, 0, 3, 0, 0, 0),
  (.if_icmp .ne 8, 3, 10, 0, 0, 0, 0),
  (.bipush 60, 2, 0, 60, 0, 0, 0),
  (.goto 4, 3, 11, 0, 0, 0, 0)]
def kX12_forceAt_10 : List JI := [(.iconst 0, 1, 0, 0, 0, 0, 0)]
def kX12_forceAt_11 : List JI := [(.istore 4, 2, 4, 0, 0, 0, 0),
  (.iconst (-1), 1, 0, -1, 0, 0, 0),
  (.istore 5, 2, 5, 0, 0, 0, 0),
  (.iconst 0, 1, 0, 0, 0, 0, 0),
  (.istore 6, 2, 6, 0, 0, 0, 0)]
def kX12_forceAt_19 : List JI := [(.iload 6, 2, 6, 0, 0, 0, 0),
  (.aload_n 0, 1, 0, 0, 0, 0, 0),
  (.getfield 188, 3, 12, 6, 1, 0, 188),
  (.if_icmp .ge 89, 3, 114, 0, 0, 0, 0),
  (.aload_n 0, 1, 0, 0, 0, 0, 0),
  (.getfield 25, 3, 12, 7, 4, 0, 107),
  (.iload 6, 2, 6, 0, 0, 0, 0),
  (.iaload, 1, 0, 0, 0, 0, 0),
  (.iload_n 1, 1, 1, 0, 0, 0, 0),
  (.if_icmp .ne 34, 3, 70, 0, 0, 0, 0),
  (.iload_n 1, 1, 1, 0, 0, 0, 0),
  (.iconst 1, 1, 0, 1, 0, 0, 0),
  (.if_icmp .gt 14, 3, 55, 0, 0, 0, 0),
  (.aload_n 0, 1, 0, 0, 0, 0, 0),
  (.getfield 28, 3, 12, 8, 4, 0, 108),
  (.iload 6, 2, 6, 0, 0, 0, 0),
  (.iaload, 1, 0, 0, 0, 0, 0),
  (.iload_n 2, 1, 2, 0, 0, 0, 0),
  (.if_icmp .ne 18, 3, 70, 0, 0, 0, 0)]
def kX12_forceAt_55 : List JI := [(.aload_n 0, 1, 0, 0, 0, 0, 0),
  (.getfield 34, 3, 12, 10, 4, 0, 110),
  (.iload 6, 2, 6, 0, 0, 0, 0),
  (.iaload, 1, 0, 0, 0, 0, 0),
  (.iload_n 3, 1, 3, 0, 0, 0, 0),
  (.if_icmp .gt 7, 3, 70, 0, 0, 0, 0),
  (.iconst 1, 1, 0, 1, 0, 0, 0),
  (.goto 4, 3, 71, 0, 0, 0, 0)]
def kX12_forceAt_70 : List JI := [(.iconst 0, 1, 0, 0, 0, 0, 0)]
def kX12_forceAt_71 : List JI := [(.istore 7, 2, 7, 0, 0, 0, 0),
  (.iload 7, 2, 7, 0, 0, 0, 0),
  (.ifCond .eq 33, 3, 108, 0, 0, 0, 0),
  (.aload_n 0, 1, 0, 0, 0, 0, 0),
  (.getfield 34, 3, 12, 10, 4, 0, 110),
  (.iload 6, 2, 6, 0, 0, 0, 0),
  (.iaload, 1, 0, 0, 0, 0, 0),
  (.iload 5, 2, 5, 0, 0, 0, 0),
  (.if_icmp .lt 21, 3, 108, 0, 0, 0, 0),
  (.aload_n 0, 1, 0, 0, 0, 0, 0),
  (.getfield 31, 3, 12, 9, 4, 0, 109),
  (.iload 6, 2, 6, 0, 0, 0, 0),
  (.iaload, 1, 0, 0, 0, 0, 0),
  (.istore 4, 2, 4, 0, 0, 0, 0),
  (.aload_n 0, 1, 0, 0, 0, 0, 0),
  (.getfield 34, 3, 12, 10, 4, 0, 110),
  (.iload 6, 2, 6, 0, 0, 0, 0),
  (.iaload, 1, 0, 0, 0, 0, 0),
  (.istore 5, 2, 5, 0, 0, 0, 0)]
def kX12_forceAt_108 : List JI := [(.iinc 6 1, 3, 6, 1, 0, 0, 0),
  (.goto (-92), 3, 19, 0, 0, 0, 0)]
def kX12_forceAt_114 : List JI := [(.iload 4, 2, 4, 0, 0, 0, 0),
  (.ireturn, 1, 0, 0, 0, 0, 0)]
theorem qq_X12_forceAt : (((jchk 50 0 kX12_forceAt_0 && jchk 50 10 kX12_forceAt_10) && (jchk 50 11 kX12_forceAt_11 && jchk 50 19 kX12_forceAt_19)) && ((jchk 50 55 kX12_forceAt_55 && jchk 50 70 kX12_forceAt_70) && (jchk 50 71 kX12_forceAt_71 && (jchk 50 108 kX12_forceAt_108 && jchk 50 114 kX12_forceAt_114)))) = true := by decide +kernel
theorem qX12_forceAt_0 : jchk 50 0 kX12_forceAt_0 = true := jb1 (jb1 (jb1 (qq_X12_forceAt)))
theorem qX12_forceAt_10 : jchk 50 10 kX12_forceAt_10 = true := jb2 (jb1 (jb1 (qq_X12_forceAt)))
theorem qX12_forceAt_11 : jchk 50 11 kX12_forceAt_11 = true := jb1 (jb2 (jb1 (qq_X12_forceAt)))
theorem qX12_forceAt_19 : jchk 50 19 kX12_forceAt_19 = true := jb2 (jb2 (jb1 (qq_X12_forceAt)))
theorem qX12_forceAt_55 : jchk 50 55 kX12_forceAt_55 = true := jb1 (jb1 (jb2 (qq_X12_forceAt)))
theorem qX12_forceAt_70 : jchk 50 70 kX12_forceAt_70 = true := jb2 (jb1 (jb2 (qq_X12_forceAt)))
theorem qX12_forceAt_71 : jchk 50 71 kX12_forceAt_71 = true := jb1 (jb2 (jb2 (qq_X12_forceAt)))
theorem qX12_forceAt_108 : jchk 50 108 kX12_forceAt_108 = true := jb1 (jb2 (jb2 (jb2 (qq_X12_forceAt))))
theorem qX12_forceAt_114 : jchk 50 114 kX12_forceAt_114 = true := jb2 (jb2 (jb2 (jb2 (qq_X12_forceAt))))
def kX12_force_0 : List JI := [(.iload_n 1, 1, 1, 0, 0, 0, 0),
  (.iconst 0, 1, 0, 0, 0, 0, 0),
  (.iconst 3, 1, 0, 3, 0, 0, 0),
  (.invokestatic 168, 3, 19, 3, 0, 12, 162),
  (.ifCond .eq 12, 3, 18, 0, 0, 0, 0),
  (.iload_n 2, 1, 2, 0, 0, 0, 0),
  (.iconst 0, 1, 0, 0, 0, 0, 0),
  (.iconst 3, 1, 0, 3, 0, 0, 0),
  (.invokestatic 168, 3, 19, 3, 0, 12, 162),
  (.ifCond .ne 9, 3, 24, 0, 0, 0, 0)]
def kX12_force_18 : List JI := [(.aload_n 0, 1, 0, 0, 0, 0, 0),
  (.iconst (-1), 1, 0, -1, 0, 0, 0),
  (.invokevirtual 172, 3, 20, 1, 0, 12, 163),
  (.ireturn, 1, 0, 0, 0, 0, 0)]
def kX12_force_24 : List JI := [(.iload_n 3, 1, 3, 0, 0, 0, 0),
  (.ifCond .ge 10, 3, 35, 0, 0, 0, 0),
  (.aload_n 0, 1, 0, 0, 0, 0, 0),
  (.bipush (-4), 2, 0, -4, 0, 0, 0),
  (.invokevirtual 172, 3, 20, 1, 0, 12, 163),
  (.ireturn, 1, 0, 0, 0, 0, 0)]
def kX12_force_35 : List JI := [(.iload_n 3, 1, 3, 0, 0, 0, 0),
  (.sipush 2000, 3, 0, 2000, 0, 0, 0),
  (.if_icmp .le 12, 3, 51, 0, 0, 0, 0),
  (.aload_n 0, 1, 0, 0, 0, 0, 0),
  (.bipush (-6), 2, 0, -6, 0, 0, 0),
  (.invokevirtual 172, 3, 20, 1, 0, 12, 163),
  (.goto 10, 3, 58, 0, 0, 0, 0)]
def kX12_force_51 : List JI := [(.aload_n 0, 1, 0, 0, 0, 0, 0),
  (.iload_n 1, 1, 1, 0, 0, 0, 0),
  (.iload_n 2, 1, 2, 0, 0, 0, 0),
  (.iload_n 3, 1, 3, 0, 0, 0, 0),
  (.invokevirtual 191, 3, 50, 3, 0, 12, 195)]
def kX12_force_58 : List JI := [(.ireturn, 1, 0, 0, 0, 0, 0)]
theorem qq_X12_force : ((jchk 51 0 kX12_force_0 && (jchk 51 18 kX12_force_18 && jchk 51 24 kX12_force_24)) && (jchk 51 35 kX12_force_35 && (jchk 51 51 kX12_force_51 && jchk 51 58 kX12_force_58))) = true := by decide +kernel
theorem qX12_force_0 : jchk 51 0 kX12_force_0 = true := jb1 (jb1 (qq_X12_force))
theorem qX12_force_18 : jchk 51 18 kX12_force_18 = true := jb1 (jb2 (jb1 (qq_X12_force)))
theorem qX12_force_24 : jchk 51 24 kX12_force_24 = true := jb2 (jb2 (jb1 (qq_X12_force)))
theorem qX12_force_35 : jchk 51 35 kX12_force_35 = true := jb1 (jb2 (qq_X12_force))
theorem qX12_force_51 : jchk 51 51 kX12_force_51 = true := jb1 (jb2 (jb2 (qq_X12_force)))
theorem qX12_force_58 : jchk 51 58 kX12_force_58 = true := jb2 (jb2 (jb2 (qq_X12_force)))
def kX11_task_0 : List JI := [(.iload_n 1, 1, 1, 0, 0, 0, 0),
  (.iconst 3, 1, 0, 3, 0, 0, 0),
  (.invokestatic 85, 3, 14, 2, 0, 11, 157),
  (.ifCond .eq 20, 3, 25, 0, 0, 0, 0),
  (.iload_n 2, 1, 2, 0, 0, 0, 0),
  (.bipush 6, 2, 0, 6, 0, 0, 0),
  (.invokestatic 85, 3, 14, 2, 0, 11, 157),
  (.ifCond .eq 11, 3, 25, 0, 0, 0, 0),
  (.iload_n 3, 1, 3, 0, 0, 0, 0),
  (.iconst 4, 1, 0, 4, 0, 0, 0),
  (.invokestatic 85, 3, 14, 2, 0, 11, 157),
  (.ifCond .ne 7, 3, 29, 0, 0, 0, 0)]
def kX11_task_25 : List JI := [(.iconst (-1), 1, 0, -1, 0, 0, 0),
  (.goto 12, 3, 38, 0, 0, 0, 0)]
def kX11_task_29 : List JI := [(.iload 4, 2, 4, 0, 0, 0, 0),
  (.iconst 0, 1, 0, 0, 0, 0, 0),
  (.sipush 2000, 3, 0, 2000, 0, 0, 0),
  (.invokestatic 89, 3, 15, 3, 0, 11, 158)]
def kX11_task_38 : List JI := [(.istore 5, 2, 5, 0, 0, 0, 0),
  (.iload 5, 2, 5, 0, 0, 0, 0),
  (.ifCond .eq 10, 3, 52, 0, 0, 0, 0),
  (.aload_n 0, 1, 0, 0, 0, 0, 0),
  (.iload 5, 2, 5, 0, 0, 0, 0),
  (.invokevirtual 93, 3, 16, 1, 0, 11, 159),
  (.ireturn, 1, 0, 0, 0, 0, 0)]
def kX11_task_52 : List JI := [(.aload_n 0, 1, 0, 0, 0, 0, 0),
  (.getfield 81, 3, 11, 11, 4, 0, 100),
  (.invokevirtual 97, 3, 17, 0, 0, 7, 160),
  (.aload_n 0, 1, 0, 0, 0, 0, 0),
  (.getfield 30, 3, 11, 4, 4, 0, 79),
  (.getfield 173, 3, 9, 1, 4, 0, 196),
  (.iload_n 1, 1, 1, 0, 0, 0, 0),
  (.aaload, 1, 0, 0, 0, 0, 0),
  (.iload_n 2, 1, 2, 0, 0, 0, 0),
  (.iaload, 1, 0, 0, 0, 0, 0),
  (.istore 6, 2, 6, 0, 0, 0, 0),
  (.aload_n 0, 1, 0, 0, 0, 0, 0),
  (.getfield 30, 3, 11, 4, 4, 0, 79),
  (.getfield 176, 3, 9, 0, 4, 0, 197),
  (.iload_n 1, 1, 1, 0, 0, 0, 0),
  (.aaload, 1, 0, 0, 0, 0, 0),
  (.iload_n 2, 1, 2, 0, 0, 0, 0),
  (.iload_n 3, 1, 3, 0, 0, 0, 0),
  (.iastore, 1, 0, 0, 0, 0, 0),
  (.aload_n 0, 1, 0, 0, 0, 0, 0),
  (.getfield 30, 3, 11, 4, 4, 0, 79),
  (.getfield 173, 3, 9, 1, 4, 0, 196),
  (.iload_n 1, 1, 1, 0, 0, 0, 0),
  (.aaload, 1, 0, 0, 0, 0, 0),
  (.iload_n 2, 1, 2, 0, 0, 0, 0),
  (.iload 4, 2, 4, 0, 0, 0, 0),
  (.iastore, 1, 0, 0, 0, 0, 0),
  (.iload 6, 2, 6, 0, 0, 0, 0),
  (.ireturn, 1, 0, 0, 0, 0, 0)]
theorem qq_X11_task : ((jchk 52 0 kX11_task_0 && jchk 52 25 kX11_task_25) && (jchk 52 29 kX11_task_29 && (jchk 52 38 kX11_task_38 && jchk 52 52 kX11_task_52))) = true := by decide +kernel
theorem qX11_task_0 : jchk 52 0 kX11_task_0 = true := jb1 (jb1 (qq_X11_task))
theorem qX11_task_25 : jchk 52 25 kX11_task_25 = true := jb2 (jb1 (qq_X11_task))
theorem qX11_task_29 : jchk 52 29 kX11_task_29 = true := jb1 (jb2 (qq_X11_task))
theorem qX11_task_38 : jchk 52 38 kX11_task_38 = true := jb1 (jb2 (jb2 (qq_X11_task)))
theorem qX11_task_52 : jchk 52 52 kX11_task_52 = true := jb2 (jb2 (jb2 (qq_X11_task)))
def kX12_task_0 : List JI := [(.iload_n 1, 1, 1, 0, 0, 0, 0),
  (.iconst 0, 1, 0, 0, 0, 0, 0),
  (.iconst 2, 1, 0, 2, 0, 0, 0),
  (.invokestatic 168, 3, 19, 3, 0, 12, 162),
  (.ifCond .eq 21, 3, 27, 0, 0, 0, 0),
  (.iload_n 2, 1, 2, 0, 0, 0, 0),
  (.iconst 0, 1, 0, 0, 0, 0, 0),
  (.iconst 5, 1, 0, 5, 0, 0, 0),
  (.invokestatic 168, 3, 19, 3, 0, 12, 162),
  (.ifCond .eq 12, 3, 27, 0, 0, 0, 0),
  (.iload_n 3, 1, 3, 0, 0, 0, 0),
  (.iconst 0, 1, 0, 0, 0, 0, 0),
  (.iconst 3, 1, 0, 3, 0, 0, 0),
  (.invokestatic 168, 3, 19, 3, 0, 12, 162),
  (.ifCond .ne 9, 3, 33, 0, 0, 0, 0)]
def kX12_task_27 : List JI := [(.aload_n 0, 1, 0, 0, 0, 0, 0),
  (.iconst (-1), 1, 0, -1, 0, 0, 0),
  (.invokevirtual 172, 3, 20, 1, 0, 12, 163),
  (.ireturn, 1, 0, 0, 0, 0, 0)]
def kX12_task_33 : List JI := [(.iload 4, 2, 4, 0, 0, 0, 0),
  (.ifCond .ge 10, 3, 45, 0, 0, 0, 0),
  (.aload_n 0, 1, 0, 0, 0, 0, 0),
  (.bipush (-4), 2, 0, -4, 0, 0, 0),
  (.invokevirtual 172, 3, 20, 1, 0, 12, 163),
  (.ireturn, 1, 0, 0, 0, 0, 0)]
def kX12_task_45 : List JI := [(.iload 4, 2, 4, 0, 0, 0, 0),
  (.sipush 2000, 3, 0, 2000, 0, 0, 0),
  (.if_icmp .le 10, 3, 60, 0, 0, 0, 0),
  (.aload_n 0, 1, 0, 0, 0, 0, 0),
  (.bipush (-6), 2, 0, -6, 0, 0, 0),
  (.invokevirtual 172, 3, 20, 1, 0, 12, 163),
  (.ireturn, 1, 0, 0, 0, 0, 0)]
def kX12_task_60 : List JI := [(.aload_n 0, 1, 0, 0, 0, 0, 0),
  (.getfield 40, 3, 12, 12, 4, 0, 112),
  (.bipush 6, 2, 0, 6, 0, 0, 0),
  (.iload_n 1, 1, 1, 0, 0, 0, 0),
  (.imul, 1, 0, 0, 0, 0, 0),
  (.iload_n 2, 1, 2, 0, 0, 0, 0),
  (.iadd, 1, 0, 0, 0, 0, 0),
  (.iaload, 1, 0, 0, 0, 0, 0),
  (.istore 5, 2, 5, 0, 0, 0, 0),
  (.aload_n 0, 1, 0, 0, 0, 0, 0),
  (.getfield 37, 3, 12, 11, 4, 0, 111),
  (.bipush 6, 2, 0, 6, 0, 0, 0),
  (.iload_n 1, 1, 1, 0, 0, 0, 0),
  (.imul, 1, 0, 0, 0, 0, 0),
  (.iload_n 2, 1, 2, 0, 0, 0, 0),
  (.iadd, 1, 0, 0, 0, 0, 0),
  (.iload_n 3, 1, 3, 0, 0, 0, 0),
  (.iastore, 1, 0, 0, 0, 0, 0),
  (.aload_n 0, 1, 0, 0, 0, 0, 0),
  (.getfield 40, 3, 12, 12, 4, 0, 112),
  (.bipush 6, 2, 0, 6, 0, 0, 0),
  (.iload_n 1, 1, 1, 0, 0, 0, 0),
  (.imul, 1, 0, 0, 0, 0, 0),
  (.iload_n 2, 1, 2, 0, 0, 0, 0),
  (.iadd, 1, 0, 0, 0, 0, 0),
  (.iload 4, 2, 4, 0, 0, 0, 0),
  (.iastore, 1, 0, 0, 0, 0, 0),
  (.iload 5, 2, 5, 0, 0, 0, 0),
  (.ireturn, 1, 0, 0, 0, 0, 0)]
theorem qq_X12_task : ((jchk 53 0 kX12_task_0 && jchk 53 27 kX12_task_27) && (jchk 53 33 kX12_task_33 && (jchk 53 45 kX12_task_45 && jchk 53 60 kX12_task_60))) = true := by decide +kernel
theorem qX12_task_0 : jchk 53 0 kX12_task_0 = true := jb1 (jb1 (qq_X12_task))
theorem qX12_task_27 : jchk 53 27 kX12_task_27 = true := jb2 (jb1 (qq_X12_task))
theorem qX12_task_33 : jchk 53 33 kX12_task_33 = true := jb1 (jb2 (qq_X12_task))
theorem qX12_task_45 : jchk 53 45 kX12_task_45 = true := jb1 (jb2 (jb2 (qq_X12_task)))
theorem qX12_task_60 : jchk 53 60 kX12_task_60 = true := jb2 (jb2 (jb2 (qq_X12_task)))
def kX11_needs_0 : List JI := [(.iload_n 1, 1, 1, 0, 0, 0, 0),
  (.iconst 3, 1, 0, 3, 0, 0, 0),
  (.invokestatic 85, 3, 14, 2, 0, 11, 157),
  (.ifCond .eq 21, 3, 26, 0, 0, 0, 0),
  (.iload_n 2, 1, 2, 0, 0, 0, 0),
  (.bipush 6, 2, 0, 6, 0, 0, 0),
  (.invokestatic 85, 3, 14, 2, 0, 11, 157),
  (.ifCond .eq 12, 3, 26, 0, 0, 0, 0),
  (.iload_n 3, 1, 3, 0, 0, 0, 0),
  (.bipush 6, 2, 0, 6, 0, 0, 0),
  (.invokestatic 85, 3, 14, 2, 0, 11, 157),
  (.ifCond .ne 7, 3, 30, 0, 0, 0, 0)]
def kX11_needs_26 : List JI := [(.iconst (-1), 1, 0, -1, 0, 0, 0),
  (.goto 12, 3, 39, 0, 0, 0, 0)]
def kX11_needs_30 : List JI := [(.iload 4, 2, 4, 0, 0, 0, 0),
  (.iconst 0, 1, 0, 0, 0, 0, 0),
  (.sipush 500, 3, 0, 500, 0, 0, 0),
  (.invokestatic 89, 3, 15, 3, 0, 11, 158)]
def kX11_needs_39 : List JI := [(.istore 5, 2, 5, 0, 0, 0, 0),
  (.iload 5, 2, 5, 0, 0, 0, 0),
  (.ifCond .eq 10, 3, 53, 0, 0, 0, 0),
  (.aload_n 0, 1, 0, 0, 0, 0, 0),
  (.iload 5, 2, 5, 0, 0, 0, 0),
  (.invokevirtual 93, 3, 16, 1, 0, 11, 159),
  (.ireturn, 1, 0, 0, 0, 0, 0)]
def kX11_needs_53 : List JI := [(.aload_n 0, 1, 0, 0, 0, 0, 0),
  (.getfield 81, 3, 11, 11, 4, 0, 100),
  (.invokevirtual 97, 3, 17, 0, 0, 7, 160),
  (.iload_n 2, 1, 2, 0, 0, 0, 0),
  (.bipush 6, 2, 0, 6, 0, 0, 0),
  (.imul, 1, 0, 0, 0, 0, 0),
  (.iload_n 3, 1, 3, 0, 0, 0, 0),
  (.iadd, 1, 0, 0, 0, 0, 0),
  (.istore 6, 2, 6, 0, 0, 0, 0),
  (.aload_n 0, 1, 0, 0, 0, 0, 0),
  (.getfield 30, 3, 11, 4, 4, 0, 79),
  (.getfield 179, 3, 9, 2, 4, 0, 198),
  (.iload_n 1, 1, 1, 0, 0, 0, 0),
  (.aaload, 1, 0, 0, 0, 0, 0),
  (.iload 6, 2, 6, 0, 0, 0, 0),
  (.iaload, 1, 0, 0, 0, 0, 0),
  (.istore 7, 2, 7, 0, 0, 0, 0),
  (.aload_n 0, 1, 0, 0, 0, 0, 0),
  (.getfield 30, 3, 11, 4, 4, 0, 79),
  (.getfield 179, 3, 9, 2, 4, 0, 198),
  (.iload_n 1, 1, 1, 0, 0, 0, 0),
  (.aaload, 1, 0, 0, 0, 0, 0),
  (.iload 6, 2, 6, 0, 0, 0, 0),
  (.iload 4, 2, 4, 0, 0, 0, 0),
  (.iastore, 1, 0, 0, 0, 0, 0),
  (.iload 7, 2, 7, 0, 0, 0, 0),
  (.ireturn, 1, 0, 0, 0, 0, 0)]
theorem qq_X11_needs : ((jchk 54 0 kX11_needs_0 && jchk 54 26 kX11_needs_26) && (jchk 54 30 kX11_needs_30 && (jchk 54 39 kX11_needs_39 && jchk 54 53 kX11_needs_53))) = true := by decide +kernel
theorem qX11_needs_0 : jchk 54 0 kX11_needs_0 = true := jb1 (jb1 (qq_X11_needs))
theorem qX11_needs_26 : jchk 54 26 kX11_needs_26 = true := jb2 (jb1 (qq_X11_needs))
theorem qX11_needs_30 : jchk 54 30 kX11_needs_30 = true := jb1 (jb2 (qq_X11_needs))
theorem qX11_needs_39 : jchk 54 39 kX11_needs_39 = true := jb1 (jb2 (jb2 (qq_X11_needs)))
theorem qX11_needs_53 : jchk 54 53 kX11_needs_53 = true := jb2 (jb2 (jb2 (qq_X11_needs)))
def kX12_needs_0 : List JI := [(.iload_n 1, 1, 1, 0, 0, 0, 0),
  (.iconst 0, 1, 0, 0, 0, 0, 0),
  (.iconst 2, 1, 0, 2, 0, 0, 0),
  (.invokestatic 168, 3, 19, 3, 0, 12, 162),
  (.ifCond .eq 21, 3, 27, 0, 0, 0, 0),
  (.iload_n 2, 1, 2, 0, 0, 0, 0),
  (.iconst 0, 1, 0, 0, 0, 0, 0),
  (.iconst 5, 1, 0, 5, 0, 0, 0),
  (.invokestatic 168, 3, 19, 3, 0, 12, 162),
  (.ifCond .eq 12, 3, 27, 0, 0, 0, 0),
  (.iload_n 3, 1, 3, 0, 0, 0, 0),
  (.iconst 0, 1, 0, 0, 0, 0, 0),
  (.iconst 5, 1, 0, 5, 0, 0, 0),
  (.invokestatic 168, 3, 19, 3, 0, 12, 162),
  (.ifCond .ne 9, 3, 33, 0, 0, 0, 0)]
def kX12_needs_27 : List JI := [(.aload_n 0, 1, 0, 0, 0, 0, 0),
  (.iconst (-1), 1, 0, -1, 0, 0, 0),
  (.invokevirtual 172, 3, 20, 1, 0, 12, 163),
  (.ireturn, 1, 0, 0, 0, 0, 0)]
def kX12_needs_33 : List JI := [(.iload 4, 2, 4, 0, 0, 0, 0),
  (.ifCond .ge 10, 3, 45, 0, 0, 0, 0),
  (.aload_n 0, 1, 0, 0, 0, 0, 0),
  (.bipush (-4), 2, 0, -4, 0, 0, 0),
  (.invokevirtual 172, 3, 20, 1, 0, 12, 163),
  (.ireturn, 1, 0, 0, 0, 0, 0)]
def kX12_needs_45 : List JI := [(.iload 4, 2, 4, 0, 0, 0, 0),
  (.sipush 500, 3, 0, 500, 0, 0, 0),
  (.if_icmp .le 10, 3, 60, 0, 0, 0, 0),
  (.aload_n 0, 1, 0, 0, 0, 0, 0),
  (.bipush (-6), 2, 0, -6, 0, 0, 0),
  (.invokevirtual 172, 3, 20, 1, 0, 12, 163),
  (.ireturn, 1, 0, 0, 0, 0, 0)]
def kX12_needs_60 : List JI := [(.bipush 6, 2, 0, 6, 0, 0, 0),
  (.bipush 6, 2, 0, 6, 0, 0, 0),
  (.iload_n 1, 1, 1, 0, 0, 0, 0),
  (.imul, 1, 0, 0, 0, 0, 0),
  (.iload_n 2, 1, 2, 0, 0, 0, 0),
  (.iadd, 1, 0, 0, 0, 0, 0),
  (.imul, 1, 0, 0, 0, 0, 0),
  (.iload_n 3, 1, 3, 0, 0, 0, 0),
  (.iadd, 1, 0, 0, 0, 0, 0),
  (.istore 5, 2, 5, 0, 0, 0, 0),
  (.aload_n 0, 1, 0, 0, 0, 0, 0),
  (.getfield 43, 3, 12, 13, 4, 0, 113),
  (.iload 5, 2, 5, 0, 0, 0, 0),
  (.iaload, 1, 0, 0, 0, 0, 0),
  (.istore 6, 2, 6, 0, 0, 0, 0),
  (.aload_n 0, 1, 0, 0, 0, 0, 0),
  (.getfield 43, 3, 12, 13, 4, 0, 113),
  (.iload 5, 2, 5, 0, 0, 0, 0),
  (.iload 4, 2, 4, 0, 0, 0, 0),
  (.iastore, 1, 0, 0, 0, 0, 0),
  (.iload 6, 2, 6, 0, 0, 0, 0),
  (.ireturn, 1, 0, 0, 0, 0, 0)]
theorem qq_X12_needs : ((jchk 55 0 kX12_needs_0 && jchk 55 27 kX12_needs_27) && (jchk 55 33 kX12_needs_33 && (jchk 55 45 kX12_needs_45 && jchk 55 60 kX12_needs_60))) = true := by decide +kernel
theorem qX12_needs_0 : jchk 55 0 kX12_needs_0 = true := jb1 (jb1 (qq_X12_needs))
theorem qX12_needs_27 : jchk 55 27 kX12_needs_27 = true := jb2 (jb1 (qq_X12_needs))
theorem qX12_needs_33 : jchk 55 33 kX12_needs_33 = true := jb1 (jb2 (qq_X12_needs))
theorem qX12_needs_45 : jchk 55 45 kX12_needs_45 = true := jb1 (jb2 (jb2 (qq_X12_needs)))
theorem qX12_needs_60 : jchk 55 60 kX12_needs_60 = true := jb2 (jb2 (jb2 (qq_X12_needs)))
def kX4_begin_0 : List JI := [(.aload_n 0, 1, 0, 0, 0, 0, 0),
  (.iload_n 1, 1, 1, 0, 0, 0, 0),
  (.putfield 22, 3, 4, 0, 1, 0, 199),
  (.aload_n 0, 1, 0, 0, 0, 0, 0),
  (.iload_n 2, 1, 2, 0, 0, 0, 0),
  (.putfield 25, 3, 4, 1, 1, 0, 200),
  (.aload_n 0, 1, 0, 0, 0, 0, 0),
  (.iload_n 3, 1, 3, 0, 0, 0, 0),
  (.putfield 28, 3, 4, 2, 1, 0, 201),
  (.aload_n 0, 1, 0, 0, 0, 0, 0),
  (.iconst 0, 1, 0, 0, 0, 0, 0),
  (.putfield 18, 3, 4, 3, 1, 0, 202),
  (.aload_n 0, 1, 0, 0, 0, 0, 0),
  (.bipush (-9), 2, 0, -9, 0, 0, 0),
  (.putfield 31, 3, 4, 4, 1, 0, 203),
  (.aload_n 0, 1, 0, 0, 0, 0, 0),
  (.bipush (-9), 2, 0, -9, 0, 0, 0),
  (.putfield 34, 3, 4, 9, 1, 0, 204),
  (.return_, 1, 0, 0, 0, 0, 0)]
theorem qX4_begin_0 : jchk 56 0 kX4_begin_0 = true := by decide +kernel
def kX10_addHull_0 : List JI := [(.aload_n 0, 1, 0, 0, 0, 0, 0),
  (.getfield 23, 3, 10, 3, 4, 0, 25),
  (.aload_n 0, 1, 0, 0, 0, 0, 0),
  (.getfield 40, 3, 10, 4, 1, 0, 205),
  (.aaload, 1, 0, 0, 0, 0, 0),
  (.iload_n 1, 1, 1, 0, 0, 0, 0),
  (.iload_n 2, 1, 2, 0, 0, 0, 0),
  (.iload_n 3, 1, 3, 0, 0, 0, 0),
  (.invokevirtual 44, 3, 56, 3, 0, 4, 206),
  (.aload_n 0, 1, 0, 0, 0, 0, 0),
  (.dup, 1, 0, 0, 0, 0, 0),
  (.getfield 40, 3, 10, 4, 1, 0, 205),
  (.iconst 1, 1, 0, 1, 0, 0, 0),
  (.iadd, 1, 0, 0, 0, 0, 0),
  (.putfield 40, 3, 10, 4, 1, 0, 205),
  (.aload_n 0, 1, 0, 0, 0, 0, 0),
  (.getfield 40, 3, 10, 4, 1, 0, 205),
  (.iconst 1, 1, 0, 1, 0, 0, 0),
  (.isub, 1, 0, 0, 0, 0, 0),
  (.ireturn, 1, 0, 0, 0, 0, 0)]
theorem qX10_addHull_0 : jchk 57 0 kX10_addHull_0 = true := by decide +kernel
def kX11_hull_0 : List JI := [(.iload_n 1, 1, 1, 0, 0, 0, 0),
  (.iconst 3, 1, 0, 3, 0, 0, 0),
  (.invokestatic 85, 3, 14, 2, 0, 11, 157),
  (.ifCond .ne 9, 3, 14, 0, 0, 0, 0),
  (.aload_n 0, 1, 0, 0, 0, 0, 0),
  (.iconst (-1), 1, 0, -1, 0, 0, 0),
  (.invokevirtual 93, 3, 16, 1, 0, 11, 159),
  (.ireturn, 1, 0, 0, 0, 0, 0)]
def kX11_hull_14 : List JI := [(.iload_n 2, 1, 2, 0, 0, 0, 0),
  (.ifCond .lt 7, 3, 22, 0, 0, 0, 0),
  (.iload_n 3, 1, 3, 0, 0, 0, 0),
  (.ifCond .ge 10, 3, 29, 0, 0, 0, 0)]
def kX11_hull_22 : List JI := [(.aload_n 0, 1, 0, 0, 0, 0, 0),
  (.bipush (-4), 2, 0, -4, 0, 0, 0),
  (.invokevirtual 93, 3, 16, 1, 0, 11, 159),
  (.ireturn, 1, 0, 0, 0, 0, 0)]
def kX11_hull_29 : List JI := [(.iload_n 2, 1, 2, 0, 0, 0, 0),
  (.bipush 99, 2, 0, 99, 0, 0, 0),
  (.if_icmp .gt 22, 3, 54, 0, 0, 0, 0),
  (.iload_n 3, 1, 3, 0, 0, 0, 0),
  (.sipush 2000, 3, 0, 2000, 0, 0, 0),
  (.if_icmp .gt 15, 3, 54, 0, 0, 0, 0),
  (.aload_n 0, 1, 0, 0, 0, 0, 0),
  (.getfield 37, 3, 11, 5, 4, 0, 82),
  (.getfield 182, 3, 10, 4, 1, 0, 207),
  (.bipush 16, 2, 0, 16, 0, 0, 0),
  (.if_icmp .lt 10, 3, 61, 0, 0, 0, 0)]
def kX11_hull_54 : List JI := [(.aload_n 0, 1, 0, 0, 0, 0, 0),
  (.bipush (-6), 2, 0, -6, 0, 0, 0),
  (.invokevirtual 93, 3, 16, 1, 0, 11, 159),
  (.ireturn, 1, 0, 0, 0, 0, 0)]
def kX11_hull_61 : List JI := [(.aload_n 0, 1, 0, 0, 0, 0, 0),
  (.getfield 81, 3, 11, 11, 4, 0, 100),
  (.invokevirtual 97, 3, 17, 0, 0, 7, 160),
  (.aload_n 0, 1, 0, 0, 0, 0, 0),
  (.getfield 37, 3, 11, 5, 4, 0, 82),
  (.iload_n 1, 1, 1, 0, 0, 0, 0),
  (.iload_n 2, 1, 2, 0, 0, 0, 0),
  (.iload_n 3, 1, 3, 0, 0, 0, 0),
  (.invokevirtual 185, 3, 57, 3, 0, 10, 208),
  (.ireturn, 1, 0, 0, 0, 0, 0)]
theorem qq_X11_hull : ((jchk 58 0 kX11_hull_0 && (jchk 58 14 kX11_hull_14 && jchk 58 22 kX11_hull_22)) && (jchk 58 29 kX11_hull_29 && (jchk 58 54 kX11_hull_54 && jchk 58 61 kX11_hull_61))) = true := by decide +kernel
theorem qX11_hull_0 : jchk 58 0 kX11_hull_0 = true := jb1 (jb1 (qq_X11_hull))
theorem qX11_hull_14 : jchk 58 14 kX11_hull_14 = true := jb1 (jb2 (jb1 (qq_X11_hull)))
theorem qX11_hull_22 : jchk 58 22 kX11_hull_22 = true := jb2 (jb2 (jb1 (qq_X11_hull)))
theorem qX11_hull_29 : jchk 58 29 kX11_hull_29 = true := jb1 (jb2 (qq_X11_hull))
theorem qX11_hull_54 : jchk 58 54 kX11_hull_54 = true := jb1 (jb2 (jb2 (qq_X11_hull)))
theorem qX11_hull_61 : jchk 58 61 kX11_hull_61 = true := jb2 (jb2 (jb2 (qq_X11_hull)))
def kX12_hull_0 : List JI := [(.iload_n 1, 1, 1, 0, 0, 0, 0),
  (.iconst 0, 1, 0, 0, 0, 0, 0),
  (.iconst 2, 1, 0, 2, 0, 0, 0),
  (.invokestatic 168, 3, 19, 3, 0, 12, 162),
  (.ifCond .ne 9, 3, 15, 0, 0, 0, 0),
  (.aload_n 0, 1, 0, 0, 0, 0, 0),
  (.iconst (-1), 1, 0, -1, 0, 0, 0),
  (.invokevirtual 172, 3, 20, 1, 0, 12, 163),
  (.ireturn, 1, 0, 0, 0, 0, 0)]
def kX12_hull_15 : List JI := [(.iload_n 2, 1, 2, 0, 0, 0, 0),
  (.ifCond .lt 7, 3, 23, 0, 0, 0, 0),
  (.iload_n 3, 1, 3, 0, 0, 0, 0),
  (.ifCond .ge 10, 3, 30, 0, 0, 0, 0)]
def kX12_hull_23 : List JI := [(.aload_n 0, 1, 0, 0, 0, 0, 0),
  (.bipush (-4), 2, 0, -4, 0, 0, 0),
  (.invokevirtual 172, 3, 20, 1, 0, 12, 163),
  (.ireturn, 1, 0, 0, 0, 0, 0)]
def kX12_hull_30 : List JI := [(.iload_n 2, 1, 2, 0, 0, 0, 0),
  (.bipush 99, 2, 0, 99, 0, 0, 0),
  (.if_icmp .gt 19, 3, 52, 0, 0, 0, 0),
  (.iload_n 3, 1, 3, 0, 0, 0, 0),
  (.sipush 2000, 3, 0, 2000, 0, 0, 0),
  (.if_icmp .gt 12, 3, 52, 0, 0, 0, 0),
  (.aload_n 0, 1, 0, 0, 0, 0, 0),
  (.getfield 195, 3, 12, 14, 1, 0, 209),
  (.bipush 16, 2, 0, 16, 0, 0, 0),
  (.if_icmp .ne 10, 3, 59, 0, 0, 0, 0)]
def kX12_hull_52 : List JI := [(.aload_n 0, 1, 0, 0, 0, 0, 0),
  (.bipush (-6), 2, 0, -6, 0, 0, 0),
  (.invokevirtual 172, 3, 20, 1, 0, 12, 163),
  (.ireturn, 1, 0, 0, 0, 0, 0)]
def kX12_hull_59 : List JI := [(.aload_n 0, 1, 0, 0, 0, 0, 0),
  (.getfield 46, 3, 12, 15, 4, 0, 114),
  (.aload_n 0, 1, 0, 0, 0, 0, 0),
  (.getfield 195, 3, 12, 14, 1, 0, 209),
  (.iload_n 1, 1, 1, 0, 0, 0, 0),
  (.iastore, 1, 0, 0, 0, 0, 0),
  (.aload_n 0, 1, 0, 0, 0, 0, 0),
  (.getfield 49, 3, 12, 16, 4, 0, 115),
  (.aload_n 0, 1, 0, 0, 0, 0, 0),
  (.getfield 195, 3, 12, 14, 1, 0, 209),
  (.iload_n 2, 1, 2, 0, 0, 0, 0),
  (.iastore, 1, 0, 0, 0, 0, 0),
  (.aload_n 0, 1, 0, 0, 0, 0, 0),
  (.getfield 52, 3, 12, 17, 4, 0, 116),
  (.aload_n 0, 1, 0, 0, 0, 0, 0),
  (.getfield 195, 3, 12, 14, 1, 0, 209),
  (.iload_n 3, 1, 3, 0, 0, 0, 0),
  (.iastore, 1, 0, 0, 0, 0, 0),
  (.aload_n 0, 1, 0, 0, 0, 0, 0),
  (.getfield 55, 3, 12, 18, 4, 0, 117),
  (.aload_n 0, 1, 0, 0, 0, 0, 0),
  (.getfield 195, 3, 12, 14, 1, 0, 209),
  (.iconst 0, 1, 0, 0, 0, 0, 0),
  (.iastore, 1, 0, 0, 0, 0, 0),
  (.aload_n 0, 1, 0, 0, 0, 0, 0),
  (.getfield 58, 3, 12, 19, 4, 0, 118),
  (.aload_n 0, 1, 0, 0, 0, 0, 0),
  (.getfield 195, 3, 12, 14, 1, 0, 209),
  (.bipush (-9), 2, 0, -9, 0, 0, 0),
  (.iastore, 1, 0, 0, 0, 0, 0),
  (.aload_n 0, 1, 0, 0, 0, 0, 0),
  (.getfield 74, 3, 12, 24, 4, 0, 123),
  (.aload_n 0, 1, 0, 0, 0, 0, 0),
  (.getfield 195, 3, 12, 14, 1, 0, 209),
  (.bipush (-9), 2, 0, -9, 0, 0, 0),
  (.iastore, 1, 0, 0, 0, 0, 0),
  (.aload_n 0, 1, 0, 0, 0, 0, 0),
  (.dup, 1, 0, 0, 0, 0, 0),
  (.getfield 195, 3, 12, 14, 1, 0, 209),
  (.iconst 1, 1, 0, 1, 0, 0, 0),
  (.iadd, 1, 0, 0, 0, 0, 0),
  (.putfield 195, 3, 12, 14, 1, 0, 209),
  (.aload_n 0, 1, 0, 0, 0, 0, 0),
  (.getfield 195, 3, 12, 14, 1, 0, 209),
  (.iconst 1, 1, 0, 1, 0, 0, 0),
  (.isub, 1, 0, 0, 0, 0, 0),
  (.ireturn, 1, 0, 0, 0, 0, 0)]
theorem qq_X12_hull : ((jchk 59 0 kX12_hull_0 && (jchk 59 15 kX12_hull_15 && jchk 59 23 kX12_hull_23)) && (jchk 59 30 kX12_hull_30 && (jchk 59 52 kX12_hull_52 && jchk 59 59 kX12_hull_59))) = true := by decide +kernel
theorem qX12_hull_0 : jchk 59 0 kX12_hull_0 = true := jb1 (jb1 (qq_X12_hull))
theorem qX12_hull_15 : jchk 59 15 kX12_hull_15 = true := jb1 (jb2 (jb1 (qq_X12_hull)))
theorem qX12_hull_23 : jchk 59 23 kX12_hull_23 = true := jb2 (jb2 (jb1 (qq_X12_hull)))
theorem qX12_hull_30 : jchk 59 30 kX12_hull_30 = true := jb1 (jb2 (qq_X12_hull))
theorem qX12_hull_52 : jchk 59 52 kX12_hull_52 = true := jb1 (jb2 (jb2 (qq_X12_hull)))
theorem qX12_hull_59 : jchk 59 59 kX12_hull_59 = true := jb2 (jb2 (jb2 (qq_X12_hull)))
def kX11_isHull_0 : List JI := [(.iload_n 1, 1, 1, 0, 0, 0, 0),
  (.aload_n 0, 1, 0, 0, 0, 0, 0),
  (.getfield 37, 3, 11, 5, 4, 0, 82),
  (.getfield 182, 3, 10, 4, 1, 0, 207),
  (.invokestatic 85, 3, 14, 2, 0, 11, 157),
  (.ireturn, 1, 0, 0, 1, 0, 0)]
theorem qX11_isHull_0 : jchk 60 0 kX11_isHull_0 = true := by decide +kernel
def kX4_isUnderWay_0 : List JI := [(.aload_n 0, 1, 0, 0, 0, 0, 0),
  (.getfield 18, 3, 4, 3, 1, 0, 202),
  (.ifCond .eq 11, 3, 15, 0, 0, 0, 0),
  (.aload_n 0, 1, 0, 0, 0, 0, 0),
  (.getfield 18, 3, 4, 3, 1, 0, 202),
  (.iconst 1, 1, 0, 1, 0, 0, 0),
  (.if_icmp .ne 7, 3, 19, 0, 0, 0, 0)]
def kX4_isUnderWay_15 : List JI := [(.iconst 1, 1, 0, 1, 0, 0, 0),
  (.goto 4, 3, 20, 0, 0, 0, 0)]
def kX4_isUnderWay_19 : List JI := [(.iconst 0, 1, 0, 0, 0, 0, 0)]
def kX4_isUnderWay_20 : List JI := [(.ireturn, 1, 0, 0, 1, 0, 0)]
theorem qq_X4_isUnderWay : ((jchk 61 0 kX4_isUnderWay_0 && jchk 61 15 kX4_isUnderWay_15) && (jchk 61 19 kX4_isUnderWay_19 && jchk 61 20 kX4_isUnderWay_20)) = true := by decide +kernel
theorem qX4_isUnderWay_0 : jchk 61 0 kX4_isUnderWay_0 = true := jb1 (jb1 (qq_X4_isUnderWay))
theorem qX4_isUnderWay_15 : jchk 61 15 kX4_isUnderWay_15 = true := jb2 (jb1 (qq_X4_isUnderWay))
theorem qX4_isUnderWay_19 : jchk 61 19 kX4_isUnderWay_19 = true := jb1 (jb2 (qq_X4_isUnderWay))
theorem qX4_isUnderWay_20 : jchk 61 20 kX4_isUnderWay_20 = true := jb2 (jb2 (qq_X4_isUnderWay))
def kX11_priority_0 : List JI := [(.aload_n 0, 1, 0, 0, 0, 0, 0),
  (.iload_n 1, 1, 1, 0, 0, 0, 0),
  (.invokevirtual 188, 3, 60, 1, 0, 11, 210),
  (.ifCond .ne 7, 3, 12, 0, 0, 0, 0),
  (.iconst (-1), 1, 0, -1, 0, 0, 0),
  (.goto 30, 3, 39, 0, 0, 0, 0)]
def kX11_priority_12 : List JI := [(.aload_n 0, 1, 0, 0, 0, 0, 0),
  (.getfield 37, 3, 11, 5, 4, 0, 82),
  (.getfield 191, 3, 10, 3, 4, 0, 211),
  (.iload_n 1, 1, 1, 0, 0, 0, 0),
  (.aaload, 1, 0, 0, 0, 0, 0),
  (.invokevirtual 195, 3, 61, 0, 0, 4, 212),
  (.ifCond .ne 8, 3, 32, 0, 0, 0, 0),
  (.bipush (-3), 2, 0, -3, 0, 0, 0),
  (.goto 10, 3, 39, 0, 0, 0, 0)]
def kX11_priority_32 : List JI := [(.iload_n 2, 1, 2, 0, 0, 0, 0),
  (.iconst 0, 1, 0, 0, 0, 0, 0),
  (.bipush 99, 2, 0, 99, 0, 0, 0),
  (.invokestatic 89, 3, 15, 3, 0, 11, 158)]
def kX11_priority_39 : List JI := [(.istore_n 3, 1, 3, 0, 0, 0, 0),
  (.iload_n 3, 1, 3, 0, 0, 0, 0),
  (.ifCond .eq 9, 3, 50, 0, 0, 0, 0),
  (.aload_n 0, 1, 0, 0, 0, 0, 0),
  (.iload_n 3, 1, 3, 0, 0, 0, 0),
  (.invokevirtual 93, 3, 16, 1, 0, 11, 159),
  (.ireturn, 1, 0, 0, 0, 0, 0)]
def kX11_priority_50 : List JI := [(.aload_n 0, 1, 0, 0, 0, 0, 0),
  (.getfield 81, 3, 11, 11, 4, 0, 100),
  (.invokevirtual 97, 3, 17, 0, 0, 7, 160),
  (.aload_n 0, 1, 0, 0, 0, 0, 0),
  (.getfield 37, 3, 11, 5, 4, 0, 82),
  (.getfield 191, 3, 10, 3, 4, 0, 211),
  (.iload_n 1, 1, 1, 0, 0, 0, 0),
  (.aaload, 1, 0, 0, 0, 0, 0),
  (.getfield 201, 3, 4, 1, 1, 0, 213),
  (.istore 4, 2, 4, 0, 0, 0, 0),
  (.aload_n 0, 1, 0, 0, 0, 0, 0),
  (.getfield 37, 3, 11, 5, 4, 0, 82),
  (.getfield 191, 3, 10, 3, 4, 0, 211),
  (.iload_n 1, 1, 1, 0, 0, 0, 0),
  (.aaload, 1, 0, 0, 0, 0, 0),
  (.iload_n 2, 1, 2, 0, 0, 0, 0),
  (.putfield 201, 3, 4, 1, 1, 0, 213),
  (.iload 4, 2, 4, 0, 0, 0, 0),
  (.ireturn, 1, 0, 0, 0, 0, 0)]
theorem qq_X11_priority : ((jchk 62 0 kX11_priority_0 && jchk 62 12 kX11_priority_12) && (jchk 62 32 kX11_priority_32 && (jchk 62 39 kX11_priority_39 && jchk 62 50 kX11_priority_50))) = true := by decide +kernel
theorem qX11_priority_0 : jchk 62 0 kX11_priority_0 = true := jb1 (jb1 (qq_X11_priority))
theorem qX11_priority_12 : jchk 62 12 kX11_priority_12 = true := jb2 (jb1 (qq_X11_priority))
theorem qX11_priority_32 : jchk 62 32 kX11_priority_32 = true := jb1 (jb2 (qq_X11_priority))
theorem qX11_priority_39 : jchk 62 39 kX11_priority_39 = true := jb1 (jb2 (jb2 (qq_X11_priority)))
theorem qX11_priority_50 : jchk 62 50 kX11_priority_50 = true := jb2 (jb2 (jb2 (qq_X11_priority)))
def kX12_isHull_0 : List JI := [(.iload_n 1, 1, 1, 0, 0, 0, 0),
  (.iconst 0, 1, 0, 0, 0, 0, 0),
  (.aload_n 0, 1, 0, 0, 0, 0, 0),
  (.getfield 195, 3, 12, 14, 1, 0, 209),
  (.iconst 1, 1, 0, 1, 0, 0, 0),
  (.isub, 1, 0, 0, 0, 0, 0),
  (.invokestatic 168, 3, 19, 3, 0, 12, 162),
  (.ireturn, 1, 0, 0, 1, 0, 0)]
theorem qX12_isHull_0 : jchk 63 0 kX12_isHull_0 = true := by decide +kernel
def kX12_priority_0 : List JI := [(.aload_n 0, 1, 0, 0, 0, 0, 0),
  (.iload_n 1, 1, 1, 0, 0, 0, 0),
  (.invokevirtual 198, 3, 63, 1, 0, 12, 214),
  (.ifCond .ne 9, 3, 14, 0, 0, 0, 0),
  (.aload_n 0, 1, 0, 0, 0, 0, 0),
  (.iconst (-1), 1, 0, -1, 0, 0, 0),
  (.invokevirtual 172, 3, 20, 1, 0, 12, 163),
  (.ireturn, 1, 0, 0, 0, 0, 0)]
def kX12_priority_14 : List JI := [(.aload_n 0, 1, 0, 0, 0, 0, 0),
  (.getfield 55, 3, 12, 18, 4, 0, 117),
  (.iload_n 1, 1, 1, 0, 0, 0, 0),
  (.iaload, 1, 0, 0, 0, 0, 0),
  (.iconst 1, 1, 0, 1, 0, 0, 0),
  (.if_icmp .le 10, 3, 31, 0, 0, 0, 0),
  (.aload_n 0, 1, 0, 0, 0, 0, 0),
  (.bipush (-3), 2, 0, -3, 0, 0, 0),
  (.invokevirtual 172, 3, 20, 1, 0, 12, 163),
  (.ireturn, 1, 0, 0, 0, 0, 0)]
def kX12_priority_31 : List JI := [(.iload_n 2, 1, 2, 0, 0, 0, 0),
  (.ifCond .ge 10, 3, 42, 0, 0, 0, 0),
  (.aload_n 0, 1, 0, 0, 0, 0, 0),
  (.bipush (-4), 2, 0, -4, 0, 0, 0),
  (.invokevirtual 172, 3, 20, 1, 0, 12, 163),
  (.ireturn, 1, 0, 0, 0, 0, 0)]
def kX12_priority_42 : List JI := [(.iload_n 2, 1, 2, 0, 0, 0, 0),
  (.bipush 99, 2, 0, 99, 0, 0, 0),
  (.if_icmp .le 10, 3, 55, 0, 0, 0, 0),
  (.aload_n 0, 1, 0, 0, 0, 0, 0),
  (.bipush (-6), 2, 0, -6, 0, 0, 0),
  (.invokevirtual 172, 3, 20, 1, 0, 12, 163),
  (.ireturn, 1, 0, 0, 0, 0, 0)]
def kX12_priority_55 : List JI := [(.aload_n 0, 1, 0, 0, 0, 0, 0),
  (.getfield 49, 3, 12, 16, 4, 0, 115),
  (.iload_n 1, 1, 1, 0, 0, 0, 0),
  (.iaload, 1, 0, 0, 0, 0, 0),
  (.istore_n 3, 1, 3, 0, 0, 0, 0),
  (.aload_n 0, 1, 0, 0, 0, 0, 0),
  (.getfield 49, 3, 12, 16, 4, 0, 115),
  (.iload_n 1, 1, 1, 0, 0, 0, 0),
  (.iload_n 2, 1, 2, 0, 0, 0, 0),
  (.iastore, 1, 0, 0, 0, 0, 0),
  (.iload_n 3, 1, 3, 0, 0, 0, 0),
  (.ireturn, 1, 0, 0, 0, 0, 0)]
theorem qq_X12_priority : ((jchk 64 0 kX12_priority_0 && jchk 64 14 kX12_priority_14) && (jchk 64 31 kX12_priority_31 && (jchk 64 42 kX12_priority_42 && jchk 64 55 kX12_priority_55))) = true := by decide +kernel
theorem qX12_priority_0 : jchk 64 0 kX12_priority_0 = true := jb1 (jb1 (qq_X12_priority))
theorem qX12_priority_14 : jchk 64 14 kX12_priority_14 = true := jb2 (jb1 (qq_X12_priority))
theorem qX12_priority_31 : jchk 64 31 kX12_priority_31 = true := jb1 (jb2 (qq_X12_priority))
theorem qX12_priority_42 : jchk 64 42 kX12_priority_42 = true := jb1 (jb2 (jb2 (qq_X12_priority)))
theorem qX12_priority_55 : jchk 64 55 kX12_priority_55 = true := jb2 (jb2 (jb2 (qq_X12_priority)))
def kX11_raft_0 : List JI := [(.iload_n 1, 1, 1, 0, 0, 0, 0),
  (.bipush 6, 2, 0, 6, 0, 0, 0),
  (.invokestatic 85, 3, 14, 2, 0, 11, 157),
  (.ifCond .ne 7, 3, 13, 0, 0, 0, 0),
  (.iconst (-1), 1, 0, -1, 0, 0, 0),
  (.goto 29, 3, 39, 0, 0, 0, 0)]
def kX11_raft_13 : List JI := [(.aload_n 0, 1, 0, 0, 0, 0, 0),
  (.getfield 37, 3, 11, 5, 4, 0, 82),
  (.getfield 204, 3, 10, 1, 4, 0, 215),
  (.iload_n 1, 1, 1, 0, 0, 0, 0),
  (.iaload, 1, 0, 0, 0, 0, 0),
  (.iconst (-1), 1, 0, -1, 0, 0, 0),
  (.if_icmp .eq 8, 3, 31, 0, 0, 0, 0),
  (.bipush (-3), 2, 0, -3, 0, 0, 0),
  (.goto 11, 3, 39, 0, 0, 0, 0)]
def kX11_raft_31 : List JI := [(.iload_n 2, 1, 2, 0, 0, 0, 0),
  (.iconst 1, 1, 0, 1, 0, 0, 0),
  (.sipush 1000, 3, 0, 1000, 0, 0, 0),
  (.invokestatic 89, 3, 15, 3, 0, 11, 158)]
def kX11_raft_39 : List JI := [(.istore_n 3, 1, 3, 0, 0, 0, 0),
  (.iload_n 3, 1, 3, 0, 0, 0, 0),
  (.ifCond .ne 19, 3, 60, 0, 0, 0, 0),
  (.aload_n 0, 1, 0, 0, 0, 0, 0),
  (.getfield 37, 3, 11, 5, 4, 0, 82),
  (.getfield 104, 3, 10, 0, 4, 0, 165),
  (.iconst 0, 1, 0, 0, 0, 0, 0),
  (.iaload, 1, 0, 0, 0, 0, 0),
  (.iload_n 2, 1, 2, 0, 0, 0, 0),
  (.if_icmp .ge 6, 3, 60, 0, 0, 0, 0),
  (.bipush (-3), 2, 0, -3, 0, 0, 0),
  (.istore_n 3, 1, 3, 0, 0, 0, 0)]
def kX11_raft_60 : List JI := [(.iload_n 3, 1, 3, 0, 0, 0, 0),
  (.ifCond .eq 9, 3, 70, 0, 0, 0, 0),
  (.aload_n 0, 1, 0, 0, 0, 0, 0),
  (.iload_n 3, 1, 3, 0, 0, 0, 0),
  (.invokevirtual 93, 3, 16, 1, 0, 11, 159),
  (.ireturn, 1, 0, 0, 0, 0, 0)]
def kX11_raft_70 : List JI := [(.aload_n 0, 1, 0, 0, 0, 0, 0),
  (.getfield 81, 3, 11, 11, 4, 0, 100),
  (.invokevirtual 97, 3, 17, 0, 0, 7, 160),
  (.aload_n 0, 1, 0, 0, 0, 0, 0),
  (.getfield 37, 3, 11, 5, 4, 0, 82),
  (.getfield 104, 3, 10, 0, 4, 0, 165),
  (.iconst 0, 1, 0, 0, 0, 0, 0),
  (.dup2, 1, 0, 0, 0, 0, 0),
  (.iaload, 1, 0, 0, 0, 0, 0),
  (.iload_n 2, 1, 2, 0, 0, 0, 0),
  (.isub, 1, 0, 0, 0, 0, 0),
  (.iastore, 1, 0, 0, 0, 0, 0),
  (.aload_n 0, 1, 0, 0, 0, 0, 0),
  (.getfield 37, 3, 11, 5, 4, 0, 82),
  (.getfield 204, 3, 10, 1, 4, 0, 215),
  (.iload_n 1, 1, 1, 0, 0, 0, 0),
  (.bipush (-2), 2, 0, -2, 0, 0, 0),
  (.iastore, 1, 0, 0, 0, 0, 0),
  (.aload_n 0, 1, 0, 0, 0, 0, 0),
  (.getfield 37, 3, 11, 5, 4, 0, 82),
  (.getfield 207, 3, 10, 2, 4, 0, 216),
  (.iload_n 1, 1, 1, 0, 0, 0, 0),
  (.iload_n 2, 1, 2, 0, 0, 0, 0),
  (.iastore, 1, 0, 0, 0, 0, 0),
  (.iconst 1, 1, 0, 1, 0, 0, 0),
  (.ireturn, 1, 0, 0, 0, 0, 0)]
theorem qq_X11_raft : ((jchk 65 0 kX11_raft_0 && (jchk 65 13 kX11_raft_13 && jchk 65 31 kX11_raft_31)) && (jchk 65 39 kX11_raft_39 && (jchk 65 60 kX11_raft_60 && jchk 65 70 kX11_raft_70))) = true := by decide +kernel
theorem qX11_raft_0 : jchk 65 0 kX11_raft_0 = true := jb1 (jb1 (qq_X11_raft))
theorem qX11_raft_13 : jchk 65 13 kX11_raft_13 = true := jb1 (jb2 (jb1 (qq_X11_raft)))
theorem qX11_raft_31 : jchk 65 31 kX11_raft_31 = true := jb2 (jb2 (jb1 (qq_X11_raft)))
theorem qX11_raft_39 : jchk 65 39 kX11_raft_39 = true := jb1 (jb2 (qq_X11_raft))
theorem qX11_raft_60 : jchk 65 60 kX11_raft_60 = true := jb1 (jb2 (jb2 (qq_X11_raft)))
theorem qX11_raft_70 : jchk 65 70 kX11_raft_70 = true := jb2 (jb2 (jb2 (qq_X11_raft)))
def kX12_raft_0 : List JI := [(.iload_n 1, 1, 1, 0, 0, 0, 0),
  (.iconst 0, 1, 0, 0, 0, 0, 0),
  (.iconst 5, 1, 0, 5, 0, 0, 0),
  (.invokestatic 168, 3, 19, 3, 0, 12, 162),
  (.ifCond .ne 9, 3, 15, 0, 0, 0, 0),
  (.aload_n 0, 1, 0, 0, 0, 0, 0),
  (.iconst (-1), 1, 0, -1, 0, 0, 0),
  (.invokevirtual 172, 3, 20, 1, 0, 12, 163),
  (.ireturn, 1, 0, 0, 0, 0, 0)]
def kX12_raft_15 : List JI := [(.aload_n 0, 1, 0, 0, 0, 0, 0),
  (.getfield 86, 3, 12, 28, 4, 0, 127),
  (.iload_n 1, 1, 1, 0, 0, 0, 0),
  (.iaload, 1, 0, 0, 0, 0, 0),
  (.ifCond .lt 10, 3, 31, 0, 0, 0, 0),
  (.aload_n 0, 1, 0, 0, 0, 0, 0),
  (.bipush (-3), 2, 0, -3, 0, 0, 0),
  (.invokevirtual 172, 3, 20, 1, 0, 12, 163),
  (.ireturn, 1, 0, 0, 0, 0, 0)]
def kX12_raft_31 : List JI := [(.iload_n 2, 1, 2, 0, 0, 0, 0),
  (.iconst 1, 1, 0, 1, 0, 0, 0),
  (.if_icmp .ge 10, 3, 43, 0, 0, 0, 0),
  (.aload_n 0, 1, 0, 0, 0, 0, 0),
  (.bipush (-4), 2, 0, -4, 0, 0, 0),
  (.invokevirtual 172, 3, 20, 1, 0, 12, 163),
  (.ireturn, 1, 0, 0, 0, 0, 0)]
def kX12_raft_43 : List JI := [(.iload_n 2, 1, 2, 0, 0, 0, 0),
  (.sipush 1000, 3, 0, 1000, 0, 0, 0),
  (.if_icmp .le 10, 3, 57, 0, 0, 0, 0),
  (.aload_n 0, 1, 0, 0, 0, 0, 0),
  (.bipush (-6), 2, 0, -6, 0, 0, 0),
  (.invokevirtual 172, 3, 20, 1, 0, 12, 163),
  (.ireturn, 1, 0, 0, 0, 0, 0)]
def kX12_raft_57 : List JI := [(.iload_n 2, 1, 2, 0, 0, 0, 0),
  (.aload_n 0, 1, 0, 0, 0, 0, 0),
  (.getfield 22, 3, 12, 5, 4, 0, 106),
  (.iconst 0, 1, 0, 0, 0, 0, 0),
  (.iaload, 1, 0, 0, 0, 0, 0),
  (.if_icmp .le 10, 3, 74, 0, 0, 0, 0),
  (.aload_n 0, 1, 0, 0, 0, 0, 0),
  (.bipush (-3), 2, 0, -3, 0, 0, 0),
  (.invokevirtual 172, 3, 20, 1, 0, 12, 163),
  (.ireturn, 1, 0, 0, 0, 0, 0)]
def kX12_raft_74 : List JI := [(.aload_n 0, 1, 0, 0, 0, 0, 0),
  (.getfield 22, 3, 12, 5, 4, 0, 106),
  (.iconst 0, 1, 0, 0, 0, 0, 0),
  (.dup2, 1, 0, 0, 0, 0, 0),
  (.iaload, 1, 0, 0, 0, 0, 0),
  (.iload_n 2, 1, 2, 0, 0, 0, 0),
  (.isub, 1, 0, 0, 0, 0, 0),
  (.iastore, 1, 0, 0, 0, 0, 0),
  (.aload_n 0, 1, 0, 0, 0, 0, 0),
  (.getfield 86, 3, 12, 28, 4, 0, 127),
  (.iload_n 1, 1, 1, 0, 0, 0, 0),
  (.bipush 100, 2, 0, 100, 0, 0, 0),
  (.iastore, 1, 0, 0, 0, 0, 0),
  (.aload_n 0, 1, 0, 0, 0, 0, 0),
  (.getfield 89, 3, 12, 29, 4, 0, 128),
  (.iload_n 1, 1, 1, 0, 0, 0, 0),
  (.iload_n 2, 1, 2, 0, 0, 0, 0),
  (.iastore, 1, 0, 0, 0, 0, 0),
  (.iconst 1, 1, 0, 1, 0, 0, 0),
  (.ireturn, 1, 0, 0, 0, 0, 0)]
theorem qq_X12_raft : ((jchk 66 0 kX12_raft_0 && (jchk 66 15 kX12_raft_15 && jchk 66 31 kX12_raft_31)) && (jchk 66 43 kX12_raft_43 && (jchk 66 57 kX12_raft_57 && jchk 66 74 kX12_raft_74))) = true := by decide +kernel
theorem qX12_raft_0 : jchk 66 0 kX12_raft_0 = true := jb1 (jb1 (qq_X12_raft))
theorem qX12_raft_15 : jchk 66 15 kX12_raft_15 = true := jb1 (jb2 (jb1 (qq_X12_raft)))
theorem qX12_raft_31 : jchk 66 31 kX12_raft_31 = true := jb2 (jb2 (jb1 (qq_X12_raft)))
theorem qX12_raft_43 : jchk 66 43 kX12_raft_43 = true := jb1 (jb2 (qq_X12_raft))
theorem qX12_raft_57 : jchk 66 57 kX12_raft_57 = true := jb1 (jb2 (jb2 (qq_X12_raft)))
theorem qX12_raft_74 : jchk 66 74 kX12_raft_74 = true := jb2 (jb2 (jb2 (qq_X12_raft)))
def kJ9_min_7cf53_0 : List JI := [(.iload_n 0, 1, 0, 0, 0, 0, 0),
  (.iload_n 1, 1, 1, 0, 0, 0, 0),
  (.if_icmp .gt 7, 3, 9, 0, 0, 0, 0),
  (.iload_n 0, 1, 0, 0, 0, 0, 0),
  (.goto 4, 3, 10, 0, 0, 0, 0)]
def kJ9_min_7cf53_9 : List JI := [(.iload_n 1, 1, 1, 0, 0, 0, 0)]
def kJ9_min_7cf53_10 : List JI := [(.ireturn, 1, 0, 0, 0, 0, 0)]
theorem qq_J9_min_7cf53 : (jchk 67 0 kJ9_min_7cf53_0 && (jchk 67 9 kJ9_min_7cf53_9 && jchk 67 10 kJ9_min_7cf53_10)) = true := by decide +kernel
theorem qJ9_min_7cf53_0 : jchk 67 0 kJ9_min_7cf53_0 = true := jb1 (qq_J9_min_7cf53)
theorem qJ9_min_7cf53_9 : jchk 67 9 kJ9_min_7cf53_9 = true := jb1 (jb2 (qq_J9_min_7cf53))
theorem qJ9_min_7cf53_10 : jchk 67 10 kJ9_min_7cf53_10 = true := jb2 (jb2 (qq_J9_min_7cf53))
def kX10_store_0 : List JI := [(.iload_n 2, 1, 2, 0, 0, 0, 0),
  (.ldc 51, 2, 0, 1000000, 0, 0, 217),
  (.aload_n 0, 1, 0, 0, 0, 0, 0),
  (.getfield 9, 3, 10, 0, 4, 0, 21),
  (.iload_n 1, 1, 1, 0, 0, 0, 0),
  (.iaload, 1, 0, 0, 0, 0, 0),
  (.isub, 1, 0, 0, 0, 0, 0),
  (.invokestatic 52, 3, 997, 0, 0, 0, 218),
  (.istore_n 3, 1, 3, 0, 0, 0, 0),
  (.aload_n 0, 1, 0, 0, 0, 0, 0),
  (.getfield 9, 3, 10, 0, 4, 0, 21),
  (.iload_n 1, 1, 1, 0, 0, 0, 0),
  (.dup2, 1, 0, 0, 0, 0, 0),
  (.iaload, 1, 0, 0, 0, 0, 0),
  (.iload_n 3, 1, 3, 0, 0, 0, 0),
  (.iadd, 1, 0, 0, 0, 0, 0),
  (.iastore, 1, 0, 0, 0, 0, 0),
  (.iload_n 3, 1, 3, 0, 0, 0, 0),
  (.ireturn, 1, 0, 0, 0, 0, 0)]
theorem qX10_store_0 : jchk 68 0 kX10_store_0 = true := by decide +kernel
def kX11_unraft_0 : List JI := [(.iload_n 1, 1, 1, 0, 0, 0, 0),
  (.bipush 6, 2, 0, 6, 0, 0, 0),
  (.invokestatic 85, 3, 14, 2, 0, 11, 157),
  (.ifCond .ne 7, 3, 13, 0, 0, 0, 0),
  (.iconst (-1), 1, 0, -1, 0, 0, 0),
  (.goto 41, 3, 51, 0, 0, 0, 0)]
def kX11_unraft_13 : List JI := [(.aload_n 0, 1, 0, 0, 0, 0, 0),
  (.getfield 37, 3, 11, 5, 4, 0, 82),
  (.getfield 204, 3, 10, 1, 4, 0, 215),
  (.iload_n 1, 1, 1, 0, 0, 0, 0),
  (.iaload, 1, 0, 0, 0, 0, 0),
  (.iconst (-1), 1, 0, -1, 0, 0, 0),
  (.if_icmp .ne 8, 3, 31, 0, 0, 0, 0),
  (.bipush (-3), 2, 0, -3, 0, 0, 0),
  (.goto 23, 3, 51, 0, 0, 0, 0)]
def kX11_unraft_31 : List JI := [(.aload_n 0, 1, 0, 0, 0, 0, 0),
  (.getfield 37, 3, 11, 5, 4, 0, 82),
  (.getfield 204, 3, 10, 1, 4, 0, 215),
  (.iload_n 1, 1, 1, 0, 0, 0, 0),
  (.iaload, 1, 0, 0, 0, 0, 0),
  (.bipush (-2), 2, 0, -2, 0, 0, 0),
  (.if_icmp .eq 8, 3, 50, 0, 0, 0, 0),
  (.bipush (-2), 2, 0, -2, 0, 0, 0),
  (.goto 4, 3, 51, 0, 0, 0, 0)]
def kX11_unraft_50 : List JI := [(.iconst 0, 1, 0, 0, 0, 0, 0)]
def kX11_unraft_51 : List JI := [(.istore_n 2, 1, 2, 0, 0, 0, 0),
  (.iload_n 2, 1, 2, 0, 0, 0, 0),
  (.ifCond .eq 9, 3, 62, 0, 0, 0, 0),
  (.aload_n 0, 1, 0, 0, 0, 0, 0),
  (.iload_n 2, 1, 2, 0, 0, 0, 0),
  (.invokevirtual 93, 3, 16, 1, 0, 11, 159),
  (.ireturn, 1, 0, 0, 0, 0, 0)]
def kX11_unraft_62 : List JI := [(.aload_n 0, 1, 0, 0, 0, 0, 0),
  (.getfield 81, 3, 11, 11, 4, 0, 100),
  (.invokevirtual 97, 3, 17, 0, 0, 7, 160),
  (.aload_n 0, 1, 0, 0, 0, 0, 0),
  (.getfield 37, 3, 11, 5, 4, 0, 82),
  (.getfield 207, 3, 10, 2, 4, 0, 216),
  (.iload_n 1, 1, 1, 0, 0, 0, 0),
  (.iaload, 1, 0, 0, 0, 0, 0),
  (.istore_n 3, 1, 3, 0, 0, 0, 0),
  (.aload_n 0, 1, 0, 0, 0, 0, 0),
  (.getfield 37, 3, 11, 5, 4, 0, 82),
  (.getfield 204, 3, 10, 1, 4, 0, 215),
  (.iload_n 1, 1, 1, 0, 0, 0, 0),
  (.iconst (-1), 1, 0, -1, 0, 0, 0),
  (.iastore, 1, 0, 0, 0, 0, 0),
  (.aload_n 0, 1, 0, 0, 0, 0, 0),
  (.getfield 37, 3, 11, 5, 4, 0, 82),
  (.getfield 207, 3, 10, 2, 4, 0, 216),
  (.iload_n 1, 1, 1, 0, 0, 0, 0),
  (.iconst 0, 1, 0, 0, 0, 0, 0),
  (.iastore, 1, 0, 0, 0, 0, 0),
  (.aload_n 0, 1, 0, 0, 0, 0, 0),
  (.getfield 37, 3, 11, 5, 4, 0, 82),
  (.iconst 0, 1, 0, 0, 0, 0, 0),
  (.iload_n 3, 1, 3, 0, 0, 0, 0),
  (.invokevirtual 210, 3, 68, 2, 0, 10, 219),
  (.pop, 1, 0, 0, 0, 0, 0),
  (.iload_n 3, 1, 3, 0, 0, 0, 0),
  (.ireturn, 1, 0, 0, 0, 0, 0)]
theorem qq_X11_unraft : ((jchk 69 0 kX11_unraft_0 && (jchk 69 13 kX11_unraft_13 && jchk 69 31 kX11_unraft_31)) && (jchk 69 50 kX11_unraft_50 && (jchk 69 51 kX11_unraft_51 && jchk 69 62 kX11_unraft_62))) = true := by decide +kernel
theorem qX11_unraft_0 : jchk 69 0 kX11_unraft_0 = true := jb1 (jb1 (qq_X11_unraft))
theorem qX11_unraft_13 : jchk 69 13 kX11_unraft_13 = true := jb1 (jb2 (jb1 (qq_X11_unraft)))
theorem qX11_unraft_31 : jchk 69 31 kX11_unraft_31 = true := jb2 (jb2 (jb1 (qq_X11_unraft)))
theorem qX11_unraft_50 : jchk 69 50 kX11_unraft_50 = true := jb1 (jb2 (qq_X11_unraft))
theorem qX11_unraft_51 : jchk 69 51 kX11_unraft_51 = true := jb1 (jb2 (jb2 (qq_X11_unraft)))
theorem qX11_unraft_62 : jchk 69 62 kX11_unraft_62 = true := jb2 (jb2 (jb2 (qq_X11_unraft)))
def kX12_unraft_0 : List JI := [(.iload_n 1, 1, 1, 0, 0, 0, 0),
  (.iconst 0, 1, 0, 0, 0, 0, 0),
  (.iconst 5, 1, 0, 5, 0, 0, 0),
  (.invokestatic 168, 3, 19, 3, 0, 12, 162),
  (.ifCond .ne 9, 3, 15, 0, 0, 0, 0),
  (.aload_n 0, 1, 0, 0, 0, 0, 0),
  (.iconst (-1), 1, 0, -1, 0, 0, 0),
  (.invokevirtual 172, 3, 20, 1, 0, 12, 163),
  (.ireturn, 1, 0, 0, 0, 0, 0)]
def kX12_unraft_15 : List JI := [(.aload_n 0, 1, 0, 0, 0, 0, 0),
  (.getfield 86, 3, 12, 28, 4, 0, 127),
  (.iload_n 1, 1, 1, 0, 0, 0, 0),
  (.iaload, 1, 0, 0, 0, 0, 0),
  (.ifCond .ge 10, 3, 31, 0, 0, 0, 0),
  (.aload_n 0, 1, 0, 0, 0, 0, 0),
  (.bipush (-3), 2, 0, -3, 0, 0, 0),
  (.invokevirtual 172, 3, 20, 1, 0, 12, 163),
  (.ireturn, 1, 0, 0, 0, 0, 0)]
def kX12_unraft_31 : List JI := [(.aload_n 0, 1, 0, 0, 0, 0, 0),
  (.getfield 86, 3, 12, 28, 4, 0, 127),
  (.iload_n 1, 1, 1, 0, 0, 0, 0),
  (.iaload, 1, 0, 0, 0, 0, 0),
  (.bipush 100, 2, 0, 100, 0, 0, 0),
  (.if_icmp .ge 10, 3, 49, 0, 0, 0, 0),
  (.aload_n 0, 1, 0, 0, 0, 0, 0),
  (.bipush (-2), 2, 0, -2, 0, 0, 0),
  (.invokevirtual 172, 3, 20, 1, 0, 12, 163),
  (.ireturn, 1, 0, 0, 0, 0, 0)]
def kX12_unraft_49 : List JI := [(.aload_n 0, 1, 0, 0, 0, 0, 0),
  (.getfield 89, 3, 12, 29, 4, 0, 128),
  (.iload_n 1, 1, 1, 0, 0, 0, 0),
  (.iaload, 1, 0, 0, 0, 0, 0),
  (.istore_n 2, 1, 2, 0, 0, 0, 0),
  (.aload_n 0, 1, 0, 0, 0, 0, 0),
  (.getfield 22, 3, 12, 5, 4, 0, 106),
  (.iconst 0, 1, 0, 0, 0, 0, 0),
  (.iload_n 2, 1, 2, 0, 0, 0, 0),
  (.ldc 176, 2, 0, 1000000, 0, 0, 166),
  (.aload_n 0, 1, 0, 0, 0, 0, 0),
  (.getfield 22, 3, 12, 5, 4, 0, 106),
  (.iconst 0, 1, 0, 0, 0, 0, 0),
  (.iaload, 1, 0, 0, 0, 0, 0),
  (.isub, 1, 0, 0, 0, 0, 0),
  (.if_icmp .le 8, 3, 79, 0, 0, 0, 0),
  (.ldc 176, 2, 0, 1000000, 0, 0, 166),
  (.goto 11, 3, 87, 0, 0, 0, 0)]
def kX12_unraft_79 : List JI := [(.aload_n 0, 1, 0, 0, 0, 0, 0),
  (.getfield 22, 3, 12, 5, 4, 0, 106),
  (.iconst 0, 1, 0, 0, 0, 0, 0),
  (.iaload, 1, 0, 0, 0, 0, 0),
  (.iload_n 2, 1, 2, 0, 0, 0, 0),
  (.iadd, 1, 0, 0, 0, 0, 0)]
def kX12_unraft_87 : List JI := [(.iastore, 1, 0, 0, 0, 0, 0),
  (.aload_n 0, 1, 0, 0, 0, 0, 0),
  (.getfield 86, 3, 12, 28, 4, 0, 127),
  (.iload_n 1, 1, 1, 0, 0, 0, 0),
  (.iconst (-1), 1, 0, -1, 0, 0, 0),
  (.iastore, 1, 0, 0, 0, 0, 0),
  (.aload_n 0, 1, 0, 0, 0, 0, 0),
  (.getfield 89, 3, 12, 29, 4, 0, 128),
  (.iload_n 1, 1, 1, 0, 0, 0, 0),
  (.iconst 0, 1, 0, 0, 0, 0, 0),
  (.iastore, 1, 0, 0, 0, 0, 0),
  (.iload_n 2, 1, 2, 0, 0, 0, 0),
  (.ireturn, 1, 0, 0, 0, 0, 0)]
theorem qq_X12_unraft : ((jchk 70 0 kX12_unraft_0 && (jchk 70 15 kX12_unraft_15 && jchk 70 31 kX12_unraft_31)) && (jchk 70 49 kX12_unraft_49 && (jchk 70 79 kX12_unraft_79 && jchk 70 87 kX12_unraft_87))) = true := by decide +kernel
theorem qX12_unraft_0 : jchk 70 0 kX12_unraft_0 = true := jb1 (jb1 (qq_X12_unraft))
theorem qX12_unraft_15 : jchk 70 15 kX12_unraft_15 = true := jb1 (jb2 (jb1 (qq_X12_unraft)))
theorem qX12_unraft_31 : jchk 70 31 kX12_unraft_31 = true := jb2 (jb2 (jb1 (qq_X12_unraft)))
theorem qX12_unraft_49 : jchk 70 49 kX12_unraft_49 = true := jb1 (jb2 (qq_X12_unraft))
theorem qX12_unraft_79 : jchk 70 79 kX12_unraft_79 = true := jb1 (jb2 (jb2 (qq_X12_unraft)))
theorem qX12_unraft_87 : jchk 70 87 kX12_unraft_87 = true := jb2 (jb2 (jb2 (qq_X12_unraft)))
def kX10_lineUp_0 : List JI := [(.aload_n 0, 1, 0, 0, 0, 0, 0),
  (.iconst 0, 1, 0, 0, 0, 0, 0),
  (.putfield 58, 3, 10, 6, 1, 0, 220),
  (.iconst 0, 1, 0, 0, 0, 0, 0),
  (.istore_n 1, 1, 1, 0, 0, 0, 0)]
def kX10_lineUp_7 : List JI := [(.iload_n 1, 1, 1, 0, 0, 0, 0),
  (.aload_n 0, 1, 0, 0, 0, 0, 0),
  (.getfield 40, 3, 10, 4, 1, 0, 205),
  (.if_icmp .ge 95, 3, 107, 0, 0, 0, 0),
  (.aload_n 0, 1, 0, 0, 0, 0, 0),
  (.getfield 23, 3, 10, 3, 4, 0, 25),
  (.iload_n 1, 1, 1, 0, 0, 0, 0),
  (.aaload, 1, 0, 0, 0, 0, 0),
  (.invokevirtual 61, 3, 61, 0, 0, 4, 221),
  (.ifCond .eq 77, 3, 101, 0, 0, 0, 0),
  (.aload_n 0, 1, 0, 0, 0, 0, 0),
  (.getfield 58, 3, 10, 6, 1, 0, 220),
  (.istore_n 2, 1, 2, 0, 0, 0, 0)]
def kX10_lineUp_32 : List JI := [(.iload_n 2, 1, 2, 0, 0, 0, 0),
  (.ifCond .le 51, 3, 84, 0, 0, 0, 0),
  (.aload_n 0, 1, 0, 0, 0, 0, 0),
  (.getfield 23, 3, 10, 3, 4, 0, 25),
  (.aload_n 0, 1, 0, 0, 0, 0, 0),
  (.getfield 27, 3, 10, 5, 4, 0, 26),
  (.iload_n 2, 1, 2, 0, 0, 0, 0),
  (.iconst 1, 1, 0, 1, 0, 0, 0),
  (.isub, 1, 0, 0, 0, 0, 0),
  (.iaload, 1, 0, 0, 0, 0, 0),
  (.aaload, 1, 0, 0, 0, 0, 0),
  (.getfield 65, 3, 4, 1, 1, 0, 222),
  (.aload_n 0, 1, 0, 0, 0, 0, 0),
  (.getfield 23, 3, 10, 3, 4, 0, 25),
  (.iload_n 1, 1, 1, 0, 0, 0, 0),
  (.aaload, 1, 0, 0, 0, 0, 0),
  (.getfield 65, 3, 4, 1, 1, 0, 222),
  (.if_icmp .ge 23, 3, 84, 0, 0, 0, 0),
  (.aload_n 0, 1, 0, 0, 0, 0, 0),
  (.getfield 27, 3, 10, 5, 4, 0, 26),
  (.iload_n 2, 1, 2, 0, 0, 0, 0),
  (.aload_n 0, 1, 0, 0, 0, 0, 0),
  (.getfield 27, 3, 10, 5, 4, 0, 26),
  (.iload_n 2, 1, 2, 0, 0, 0, 0),
  (.iconst 1, 1, 0, 1, 0, 0, 0),
  (.isub, 1, 0, 0, 0, 0, 0),
  (.iaload, 1, 0, 0, 0, 0, 0),
  (.iastore, 1, 0, 0, 0, 0, 0),
  (.iinc 2 (-1), 3, 2, -1, 0, 0, 0),
  (.goto (-49), 3, 32, 0, 0, 0, 0)]
def kX10_lineUp_84 : List JI := [(.aload_n 0, 1, 0, 0, 0, 0, 0),
  (.getfield 27, 3, 10, 5, 4, 0, 26),
  (.iload_n 2, 1, 2, 0, 0, 0, 0),
  (.iload_n 1, 1, 1, 0, 0, 0, 0),
  (.iastore, 1, 0, 0, 0, 0, 0),
  (.aload_n 0, 1, 0, 0, 0, 0, 0),
  (.dup, 1, 0, 0, 0, 0, 0),
  (.getfield 58, 3, 10, 6, 1, 0, 220),
  (.iconst 1, 1, 0, 1, 0, 0, 0),
  (.iadd, 1, 0, 0, 0, 0, 0),
  (.putfield 58, 3, 10, 6, 1, 0, 220)]
def kX10_lineUp_101 : List JI := [(.iinc 1 1, 3, 1, 1, 0, 0, 0),
  (.goto (-97), 3, 7, 0, 0, 0, 0)]
def kX10_lineUp_107 : List JI := [(.return_, 1, 0, 0, 0, 0, 0)]
theorem qq_X10_lineUp : ((jchk 71 0 kX10_lineUp_0 && (jchk 71 7 kX10_lineUp_7 && jchk 71 32 kX10_lineUp_32)) && (jchk 71 84 kX10_lineUp_84 && (jchk 71 101 kX10_lineUp_101 && jchk 71 107 kX10_lineUp_107))) = true := by decide +kernel
theorem qX10_lineUp_0 : jchk 71 0 kX10_lineUp_0 = true := jb1 (jb1 (qq_X10_lineUp))
theorem qX10_lineUp_7 : jchk 71 7 kX10_lineUp_7 = true := jb1 (jb2 (jb1 (qq_X10_lineUp)))
theorem qX10_lineUp_32 : jchk 71 32 kX10_lineUp_32 = true := jb2 (jb2 (jb1 (qq_X10_lineUp)))
theorem qX10_lineUp_84 : jchk 71 84 kX10_lineUp_84 = true := jb1 (jb2 (qq_X10_lineUp))
theorem qX10_lineUp_101 : jchk 71 101 kX10_lineUp_101 = true := jb1 (jb2 (jb2 (qq_X10_lineUp)))
theorem qX10_lineUp_107 : jchk 71 107 kX10_lineUp_107 = true := jb2 (jb2 (jb2 (qq_X10_lineUp)))
def kX0_write_0 : List JI := [(.aload 4, 2, 4, 0, 0, 0, 0),
  (.iload_n 2, 1, 2, 0, 0, 0, 0),
  (.invokevirtual 24, 3, 47, 1, 0, 2, 223),
  (.aload 4, 2, 4, 0, 0, 0, 0),
  (.iconst 2, 1, 0, 2, 0, 0, 0),
  (.iconst 0, 1, 0, 0, 0, 0, 0),
  (.invokevirtual 30, 3, 48, 2, 0, 2, 224),
  (.istore 5, 2, 5, 0, 0, 0, 0),
  (.aload_n 0, 1, 0, 0, 0, 0, 0),
  (.getfield 15, 3, 0, 1, 4, 0, 55),
  (.iload_n 1, 1, 1, 0, 0, 0, 0),
  (.iload 5, 2, 5, 0, 0, 0, 0),
  (.ifCond .eq 14, 3, 36, 0, 0, 0, 0),
  (.iload_n 2, 1, 2, 0, 0, 0, 0),
  (.iload 5, 2, 5, 0, 0, 0, 0),
  (.irem, 1, 0, 0, 0, 0, 0),
  (.ifCond .ne 7, 3, 36, 0, 0, 0, 0),
  (.iconst 0, 1, 0, 0, 0, 0, 0),
  (.goto 10, 3, 43, 0, 0, 0, 0)]
def kX0_write_36 : List JI := [(.aload 4, 2, 4, 0, 0, 0, 0),
  (.iconst 3, 1, 0, 3, 0, 0, 0),
  (.iconst 0, 1, 0, 0, 0, 0, 0),
  (.invokevirtual 30, 3, 48, 2, 0, 2, 224)]
def kX0_write_43 : List JI := [(.iastore, 1, 0, 0, 0, 0, 0),
  (.aload_n 0, 1, 0, 0, 0, 0, 0),
  (.getfield 18, 3, 0, 2, 4, 0, 56),
  (.iload_n 1, 1, 1, 0, 0, 0, 0),
  (.iconst 0, 1, 0, 0, 0, 0, 0),
  (.iastore, 1, 0, 0, 0, 0, 0),
  (.aload_n 0, 1, 0, 0, 0, 0, 0),
  (.getfield 21, 3, 0, 3, 4, 0, 57),
  (.iload_n 1, 1, 1, 0, 0, 0, 0),
  (.iconst 0, 1, 0, 0, 0, 0, 0),
  (.iastore, 1, 0, 0, 0, 0, 0),
  (.iconst 0, 1, 0, 0, 0, 0, 0),
  (.istore 6, 2, 6, 0, 0, 0, 0)]
def kX0_write_61 : List JI := [(.iload 6, 2, 6, 0, 0, 0, 0),
  (.iconst 4, 1, 0, 4, 0, 0, 0),
  (.if_icmp .ge 71, 3, 135, 0, 0, 0, 0),
  (.aload_n 3, 1, 3, 0, 0, 0, 0),
  (.iload 6, 2, 6, 0, 0, 0, 0),
  (.iload_n 2, 1, 2, 0, 0, 0, 0),
  (.invokevirtual 34, 3, 38, 2, 0, 1, 225),
  (.istore 7, 2, 7, 0, 0, 0, 0),
  (.aload_n 0, 1, 0, 0, 0, 0, 0),
  (.getfield 9, 3, 0, 0, 4, 0, 54),
  (.iload_n 1, 1, 1, 0, 0, 0, 0),
  (.iconst 4, 1, 0, 4, 0, 0, 0),
  (.imul, 1, 0, 0, 0, 0, 0),
  (.iload 6, 2, 6, 0, 0, 0, 0),
  (.iadd, 1, 0, 0, 0, 0, 0),
  (.iload 7, 2, 7, 0, 0, 0, 0),
  (.iastore, 1, 0, 0, 0, 0, 0),
  (.aload_n 0, 1, 0, 0, 0, 0, 0),
  (.getfield 18, 3, 0, 2, 4, 0, 56),
  (.iload_n 1, 1, 1, 0, 0, 0, 0),
  (.dup2, 1, 0, 0, 0, 0, 0),
  (.iaload, 1, 0, 0, 0, 0, 0),
  (.iload 7, 2, 7, 0, 0, 0, 0),
  (.aload 4, 2, 4, 0, 0, 0, 0),
  (.iconst 0, 1, 0, 0, 0, 0, 0),
  (.iload 6, 2, 6, 0, 0, 0, 0),
  (.invokevirtual 30, 3, 48, 2, 0, 2, 224),
  (.imul, 1, 0, 0, 0, 0, 0),
  (.iadd, 1, 0, 0, 0, 0, 0),
  (.iastore, 1, 0, 0, 0, 0, 0),
  (.aload_n 0, 1, 0, 0, 0, 0, 0),
  (.getfield 21, 3, 0, 3, 4, 0, 57),
  (.iload_n 1, 1, 1, 0, 0, 0, 0),
  (.dup2, 1, 0, 0, 0, 0, 0),
  (.iaload, 1, 0, 0, 0, 0, 0),
  (.iload 7, 2, 7, 0, 0, 0, 0),
  (.aload 4, 2, 4, 0, 0, 0, 0),
  (.iconst 1, 1, 0, 1, 0, 0, 0),
  (.iload 6, 2, 6, 0, 0, 0, 0),
  (.invokevirtual 30, 3, 48, 2, 0, 2, 224),
  (.imul, 1, 0, 0, 0, 0, 0),
  (.iadd, 1, 0, 0, 0, 0, 0),
  (.iastore, 1, 0, 0, 0, 0, 0),
  (.iinc 6 1, 3, 6, 1, 0, 0, 0),
  (.goto (-71), 3, 61, 0, 0, 0, 0)]
def kX0_write_135 : List JI := [(.return_, 1, 0, 0, 0, 0, 0)]
theorem qq_X0_write : ((jchk 72 0 kX0_write_0 && jchk 72 36 kX0_write_36) && (jchk 72 43 kX0_write_43 && (jchk 72 61 kX0_write_61 && jchk 72 135 kX0_write_135))) = true := by decide +kernel
theorem qX0_write_0 : jchk 72 0 kX0_write_0 = true := jb1 (jb1 (qq_X0_write))
theorem qX0_write_36 : jchk 72 36 kX0_write_36 = true := jb2 (jb1 (qq_X0_write))
theorem qX0_write_43 : jchk 72 43 kX0_write_43 = true := jb1 (jb2 (qq_X0_write))
theorem qX0_write_61 : jchk 72 61 kX0_write_61 = true := jb1 (jb2 (jb2 (qq_X0_write)))
theorem qX0_write_135 : jchk 72 135 kX0_write_135 = true := jb2 (jb2 (jb2 (qq_X0_write)))
def kX4_mayMoveOn_0 : List JI := [(.aload_n 0, 1, 0, 0, 0, 0, 0),
  (.getfield 47, 3, 4, 7, 3, 0, 226),
  (.ifCond .eq 14, 3, 18, 0, 0, 0, 0),
  (.aload_n 0, 1, 0, 0, 0, 0, 0),
  (.getfield 44, 3, 4, 6, 1, 0, 227),
  (.ifCond .ne 7, 3, 18, 0, 0, 0, 0),
  (.iconst 1, 1, 0, 1, 0, 0, 0),
  (.goto 4, 3, 19, 0, 0, 0, 0)]
def kX4_mayMoveOn_18 : List JI := [(.iconst 0, 1, 0, 0, 0, 0, 0)]
def kX4_mayMoveOn_19 : List JI := [(.ireturn, 1, 0, 0, 1, 0, 0)]
theorem qq_X4_mayMoveOn : (jchk 73 0 kX4_mayMoveOn_0 && (jchk 73 18 kX4_mayMoveOn_18 && jchk 73 19 kX4_mayMoveOn_19)) = true := by decide +kernel
theorem qX4_mayMoveOn_0 : jchk 73 0 kX4_mayMoveOn_0 = true := jb1 (qq_X4_mayMoveOn)
theorem qX4_mayMoveOn_18 : jchk 73 18 kX4_mayMoveOn_18 = true := jb1 (jb2 (qq_X4_mayMoveOn))
theorem qX4_mayMoveOn_19 : jchk 73 19 kX4_mayMoveOn_19 = true := jb2 (jb2 (qq_X4_mayMoveOn))
def kX4_leave_0 : List JI := [(.aload_n 0, 1, 0, 0, 0, 0, 0),
  (.iconst 2, 1, 0, 2, 0, 0, 0),
  (.putfield 18, 3, 4, 3, 1, 0, 202),
  (.aload_n 0, 1, 0, 0, 0, 0, 0),
  (.bipush (-9), 2, 0, -9, 0, 0, 0),
  (.putfield 31, 3, 4, 4, 1, 0, 203),
  (.aload_n 0, 1, 0, 0, 0, 0, 0),
  (.iconst 0, 1, 0, 0, 0, 0, 0),
  (.putfield 47, 3, 4, 7, 3, 0, 226),
  (.aload_n 0, 1, 0, 0, 0, 0, 0),
  (.iload_n 1, 1, 1, 0, 0, 0, 0),
  (.putfield 34, 3, 4, 9, 1, 0, 204),
  (.return_, 1, 0, 0, 0, 0, 0)]
theorem qX4_leave_0 : jchk 74 0 kX4_leave_0 = true := by decide +kernel
def kX4_enter_0 : List JI := [(.aload_n 0, 1, 0, 0, 0, 0, 0),
  (.iconst 1, 1, 0, 1, 0, 0, 0),
  (.putfield 18, 3, 4, 3, 1, 0, 202),
  (.aload_n 0, 1, 0, 0, 0, 0, 0),
  (.iload_n 1, 1, 1, 0, 0, 0, 0),
  (.putfield 31, 3, 4, 4, 1, 0, 203),
  (.aload_n 0, 1, 0, 0, 0, 0, 0),
  (.aload_n 2, 1, 2, 0, 0, 0, 0),
  (.getfield 63, 3, 9, 0, 4, 0, 228),
  (.aload_n 0, 1, 0, 0, 0, 0, 0),
  (.getfield 22, 3, 4, 0, 1, 0, 199),
  (.aaload, 1, 0, 0, 0, 0, 0),
  (.iload_n 1, 1, 1, 0, 0, 0, 0),
  (.iaload, 1, 0, 0, 0, 0, 0),
  (.putfield 41, 3, 4, 5, 1, 0, 229),
  (.aload_n 0, 1, 0, 0, 0, 0, 0),
  (.aload_n 2, 1, 2, 0, 0, 0, 0),
  (.getfield 68, 3, 9, 1, 4, 0, 230),
  (.aload_n 0, 1, 0, 0, 0, 0, 0),
  (.getfield 22, 3, 4, 0, 1, 0, 199),
  (.aaload, 1, 0, 0, 0, 0, 0),
  (.iload_n 1, 1, 1, 0, 0, 0, 0),
  (.iaload, 1, 0, 0, 0, 0, 0),
  (.putfield 44, 3, 4, 6, 1, 0, 227),
  (.aload_n 0, 1, 0, 0, 0, 0, 0),
  (.iconst 0, 1, 0, 0, 0, 0, 0),
  (.putfield 47, 3, 4, 7, 3, 0, 226),
  (.iconst 0, 1, 0, 0, 0, 0, 0),
  (.istore_n 3, 1, 3, 0, 0, 0, 0)]
def kX4_enter_47 : List JI := [(.iload_n 3, 1, 3, 0, 0, 0, 0),
  (.bipush 6, 2, 0, 6, 0, 0, 0),
  (.if_icmp .ge 46, 3, 96, 0, 0, 0, 0),
  (.aload_n 0, 1, 0, 0, 0, 0, 0),
  (.getfield 9, 3, 4, 11, 4, 0, 18),
  (.iload_n 3, 1, 3, 0, 0, 0, 0),
  (.aload_n 2, 1, 2, 0, 0, 0, 0),
  (.getfield 70, 3, 9, 2, 4, 0, 231),
  (.aload_n 0, 1, 0, 0, 0, 0, 0),
  (.getfield 22, 3, 4, 0, 1, 0, 199),
  (.aaload, 1, 0, 0, 0, 0, 0),
  (.iload_n 1, 1, 1, 0, 0, 0, 0),
  (.bipush 6, 2, 0, 6, 0, 0, 0),
  (.imul, 1, 0, 0, 0, 0, 0),
  (.iload_n 3, 1, 3, 0, 0, 0, 0),
  (.iadd, 1, 0, 0, 0, 0, 0),
  (.iaload, 1, 0, 0, 0, 0, 0),
  (.iastore, 1, 0, 0, 0, 0, 0),
  (.aload_n 0, 1, 0, 0, 0, 0, 0),
  (.getfield 15, 3, 4, 12, 4, 0, 19),
  (.iload_n 3, 1, 3, 0, 0, 0, 0),
  (.dup2, 1, 0, 0, 0, 0, 0),
  (.iaload, 1, 0, 0, 0, 0, 0),
  (.aload_n 0, 1, 0, 0, 0, 0, 0),
  (.getfield 9, 3, 4, 11, 4, 0, 18),
  (.iload_n 3, 1, 3, 0, 0, 0, 0),
  (.iaload, 1, 0, 0, 0, 0, 0),
  (.iadd, 1, 0, 0, 0, 0, 0),
  (.iastore, 1, 0, 0, 0, 0, 0),
  (.iinc 3 1, 3, 3, 1, 0, 0, 0),
  (.goto (-46), 3, 47, 0, 0, 0, 0)]
def kX4_enter_96 : List JI := [(.return_, 1, 0, 0, 0, 0, 0)]
theorem qq_X4_enter : (jchk 75 0 kX4_enter_0 && (jchk 75 47 kX4_enter_47 && jchk 75 96 kX4_enter_96)) = true := by decide +kernel
theorem qX4_enter_0 : jchk 75 0 kX4_enter_0 = true := jb1 (qq_X4_enter)
theorem qX4_enter_47 : jchk 75 47 kX4_enter_47 = true := jb1 (jb2 (qq_X4_enter))
theorem qX4_enter_96 : jchk 75 96 kX4_enter_96 = true := jb2 (jb2 (qq_X4_enter))
def kX10_berth_0 : List JI := [(.aload_n 0, 1, 0, 0, 0, 0, 0),
  (.getfield 15, 3, 10, 1, 4, 0, 22),
  (.iload_n 2, 1, 2, 0, 0, 0, 0),
  (.iload_n 1, 1, 1, 0, 0, 0, 0),
  (.iastore, 1, 0, 0, 0, 0, 0),
  (.aload_n 0, 1, 0, 0, 0, 0, 0),
  (.getfield 23, 3, 10, 3, 4, 0, 25),
  (.iload_n 1, 1, 1, 0, 0, 0, 0),
  (.aaload, 1, 0, 0, 0, 0, 0),
  (.iload_n 2, 1, 2, 0, 0, 0, 0),
  (.aload_n 3, 1, 3, 0, 0, 0, 0),
  (.invokevirtual 128, 3, 75, 2, 0, 4, 232),
  (.aload_n 0, 1, 0, 0, 0, 0, 0),
  (.iconst 1, 1, 0, 1, 0, 0, 0),
  (.putfield 78, 3, 10, 10, 3, 0, 233),
  (.return_, 1, 0, 0, 0, 0, 0)]
theorem qX10_berth_0 : jchk 76 0 kX10_berth_0 = true := by decide +kernel
def kX10_moveOn_0 : List JI := [(.iconst 0, 1, 0, 0, 0, 0, 0),
  (.istore_n 3, 1, 3, 0, 0, 0, 0),
  (.iconst 5, 1, 0, 5, 0, 0, 0),
  (.istore 4, 2, 4, 0, 0, 0, 0)]
def kX10_moveOn_5 : List JI := [(.iload 4, 2, 4, 0, 0, 0, 0),
  (.ifCond .lt 107, 3, 114, 0, 0, 0, 0),
  (.aload_n 0, 1, 0, 0, 0, 0, 0),
  (.getfield 15, 3, 10, 1, 4, 0, 22),
  (.iload 4, 2, 4, 0, 0, 0, 0),
  (.iaload, 1, 0, 0, 0, 0, 0),
  (.istore 5, 2, 5, 0, 0, 0, 0),
  (.iload 5, 2, 5, 0, 0, 0, 0),
  (.ifCond .lt 87, 3, 108, 0, 0, 0, 0),
  (.aload_n 0, 1, 0, 0, 0, 0, 0),
  (.getfield 23, 3, 10, 3, 4, 0, 25),
  (.iload 5, 2, 5, 0, 0, 0, 0),
  (.aaload, 1, 0, 0, 0, 0, 0),
  (.invokevirtual 118, 3, 73, 0, 0, 4, 234),
  (.ifCond .ne 6, 3, 40, 0, 0, 0, 0),
  (.goto 71, 3, 108, 0, 0, 0, 0)]
def kX10_moveOn_40 : List JI := [(.iload 4, 2, 4, 0, 0, 0, 0),
  (.iconst 5, 1, 0, 5, 0, 0, 0),
  (.if_icmp .ne 33, 3, 76, 0, 0, 0, 0),
  (.aload_n 0, 1, 0, 0, 0, 0, 0),
  (.getfield 15, 3, 10, 1, 4, 0, 22),
  (.iload 4, 2, 4, 0, 0, 0, 0),
  (.iconst (-1), 1, 0, -1, 0, 0, 0),
  (.iastore, 1, 0, 0, 0, 0, 0),
  (.aload_n 0, 1, 0, 0, 0, 0, 0),
  (.getfield 23, 3, 10, 3, 4, 0, 25),
  (.iload 5, 2, 5, 0, 0, 0, 0),
  (.aaload, 1, 0, 0, 0, 0, 0),
  (.iload_n 1, 1, 1, 0, 0, 0, 0),
  (.invokevirtual 121, 3, 74, 1, 0, 4, 235),
  (.iinc 3 1, 3, 3, 1, 0, 0, 0),
  (.aload_n 0, 1, 0, 0, 0, 0, 0),
  (.iconst 1, 1, 0, 1, 0, 0, 0),
  (.putfield 78, 3, 10, 10, 3, 0, 233),
  (.goto 35, 3, 108, 0, 0, 0, 0)]
def kX10_moveOn_76 : List JI := [(.aload_n 0, 1, 0, 0, 0, 0, 0),
  (.getfield 15, 3, 10, 1, 4, 0, 22),
  (.iload 4, 2, 4, 0, 0, 0, 0),
  (.iconst 1, 1, 0, 1, 0, 0, 0),
  (.iadd, 1, 0, 0, 0, 0, 0),
  (.iaload, 1, 0, 0, 0, 0, 0),
  (.iconst (-1), 1, 0, -1, 0, 0, 0),
  (.if_icmp .ne 22, 3, 108, 0, 0, 0, 0),
  (.aload_n 0, 1, 0, 0, 0, 0, 0),
  (.getfield 15, 3, 10, 1, 4, 0, 22),
  (.iload 4, 2, 4, 0, 0, 0, 0),
  (.iconst (-1), 1, 0, -1, 0, 0, 0),
  (.iastore, 1, 0, 0, 0, 0, 0),
  (.aload_n 0, 1, 0, 0, 0, 0, 0),
  (.iload 5, 2, 5, 0, 0, 0, 0),
  (.iload 4, 2, 4, 0, 0, 0, 0),
  (.iconst 1, 1, 0, 1, 0, 0, 0),
  (.iadd, 1, 0, 0, 0, 0, 0),
  (.aload_n 2, 1, 2, 0, 0, 0, 0),
  (.invokevirtual 124, 3, 76, 3, 0, 10, 236)]
def kX10_moveOn_108 : List JI := [(.iinc 4 (-1), 3, 4, -1, 0, 0, 0),
  (.goto (-106), 3, 5, 0, 0, 0, 0)]
def kX10_moveOn_114 : List JI := [(.iload_n 3, 1, 3, 0, 0, 0, 0),
  (.ireturn, 1, 0, 0, 0, 0, 0)]
theorem qq_X10_moveOn : ((jchk 77 0 kX10_moveOn_0 && (jchk 77 5 kX10_moveOn_5 && jchk 77 40 kX10_moveOn_40)) && (jchk 77 76 kX10_moveOn_76 && (jchk 77 108 kX10_moveOn_108 && jchk 77 114 kX10_moveOn_114))) = true := by decide +kernel
theorem qX10_moveOn_0 : jchk 77 0 kX10_moveOn_0 = true := jb1 (jb1 (qq_X10_moveOn))
theorem qX10_moveOn_5 : jchk 77 5 kX10_moveOn_5 = true := jb1 (jb2 (jb1 (qq_X10_moveOn)))
theorem qX10_moveOn_40 : jchk 77 40 kX10_moveOn_40 = true := jb2 (jb2 (jb1 (qq_X10_moveOn)))
theorem qX10_moveOn_76 : jchk 77 76 kX10_moveOn_76 = true := jb1 (jb2 (qq_X10_moveOn))
theorem qX10_moveOn_108 : jchk 77 108 kX10_moveOn_108 = true := jb1 (jb2 (jb2 (qq_X10_moveOn)))
theorem qX10_moveOn_114 : jchk 77 114 kX10_moveOn_114 = true := jb2 (jb2 (jb2 (qq_X10_moveOn)))
def kX10_letIn_0 : List JI := [(.iconst 0, 1, 0, 0, 0, 0, 0),
  (.istore_n 2, 1, 2, 0, 0, 0, 0)]
def kX10_letIn_2 : List JI := [(.iload_n 2, 1, 2, 0, 0, 0, 0),
  (.aload_n 0, 1, 0, 0, 0, 0, 0),
  (.getfield 58, 3, 10, 6, 1, 0, 220),
  (.if_icmp .ge 48, 3, 55, 0, 0, 0, 0),
  (.aload_n 0, 1, 0, 0, 0, 0, 0),
  (.getfield 15, 3, 10, 1, 4, 0, 22),
  (.iconst 0, 1, 0, 0, 0, 0, 0),
  (.iaload, 1, 0, 0, 0, 0, 0),
  (.iconst (-1), 1, 0, -1, 0, 0, 0),
  (.if_icmp .ne 38, 3, 55, 0, 0, 0, 0),
  (.aload_n 0, 1, 0, 0, 0, 0, 0),
  (.getfield 23, 3, 10, 3, 4, 0, 25),
  (.aload_n 0, 1, 0, 0, 0, 0, 0),
  (.getfield 27, 3, 10, 5, 4, 0, 26),
  (.iload_n 2, 1, 2, 0, 0, 0, 0),
  (.iaload, 1, 0, 0, 0, 0, 0),
  (.aaload, 1, 0, 0, 0, 0, 0),
  (.getfield 48, 3, 4, 3, 1, 0, 237),
  (.ifCond .ne 15, 3, 49, 0, 0, 0, 0),
  (.aload_n 0, 1, 0, 0, 0, 0, 0),
  (.aload_n 0, 1, 0, 0, 0, 0, 0),
  (.getfield 27, 3, 10, 5, 4, 0, 26),
  (.iload_n 2, 1, 2, 0, 0, 0, 0),
  (.iaload, 1, 0, 0, 0, 0, 0),
  (.iconst 0, 1, 0, 0, 0, 0, 0),
  (.aload_n 1, 1, 1, 0, 0, 0, 0),
  (.invokevirtual 124, 3, 76, 3, 0, 10, 236)]
def kX10_letIn_49 : List JI := [(.iinc 2 1, 3, 2, 1, 0, 0, 0),
  (.goto (-50), 3, 2, 0, 0, 0, 0)]
def kX10_letIn_55 : List JI := [(.return_, 1, 0, 0, 0, 0, 0)]
theorem qq_X10_letIn : ((jchk 78 0 kX10_letIn_0 && jchk 78 2 kX10_letIn_2) && (jchk 78 49 kX10_letIn_49 && jchk 78 55 kX10_letIn_55)) = true := by decide +kernel
theorem qX10_letIn_0 : jchk 78 0 kX10_letIn_0 = true := jb1 (jb1 (qq_X10_letIn))
theorem qX10_letIn_2 : jchk 78 2 kX10_letIn_2 = true := jb2 (jb1 (qq_X10_letIn))
theorem qX10_letIn_49 : jchk 78 49 kX10_letIn_49 = true := jb1 (jb2 (qq_X10_letIn))
theorem qX10_letIn_55 : jchk 78 55 kX10_letIn_55 = true := jb2 (jb2 (qq_X10_letIn))
def kX10_hasAll_0 : List JI := [(.iconst 0, 1, 0, 0, 0, 0, 0),
  (.istore_n 2, 1, 2, 0, 0, 0, 0)]
def kX10_hasAll_2 : List JI := [(.iload_n 2, 1, 2, 0, 0, 0, 0),
  (.bipush 6, 2, 0, 6, 0, 0, 0),
  (.if_icmp .ge 23, 3, 28, 0, 0, 0, 0),
  (.aload_n 0, 1, 0, 0, 0, 0, 0),
  (.getfield 9, 3, 10, 0, 4, 0, 21),
  (.iload_n 2, 1, 2, 0, 0, 0, 0),
  (.iaload, 1, 0, 0, 0, 0, 0),
  (.aload_n 1, 1, 1, 0, 0, 0, 0),
  (.iload_n 2, 1, 2, 0, 0, 0, 0),
  (.iaload, 1, 0, 0, 0, 0, 0),
  (.if_icmp .ge 5, 3, 22, 0, 0, 0, 0),
  (.iconst 0, 1, 0, 0, 0, 0, 0),
  (.ireturn, 1, 0, 0, 1, 0, 0)]
def kX10_hasAll_22 : List JI := [(.iinc 2 1, 3, 2, 1, 0, 0, 0),
  (.goto (-23), 3, 2, 0, 0, 0, 0)]
def kX10_hasAll_28 : List JI := [(.iconst 1, 1, 0, 1, 0, 0, 0),
  (.ireturn, 1, 0, 0, 1, 0, 0)]
theorem qq_X10_hasAll : ((jchk 79 0 kX10_hasAll_0 && jchk 79 2 kX10_hasAll_2) && (jchk 79 22 kX10_hasAll_22 && jchk 79 28 kX10_hasAll_28)) = true := by decide +kernel
theorem qX10_hasAll_0 : jchk 79 0 kX10_hasAll_0 = true := jb1 (jb1 (qq_X10_hasAll))
theorem qX10_hasAll_2 : jchk 79 2 kX10_hasAll_2 = true := jb2 (jb1 (qq_X10_hasAll))
theorem qX10_hasAll_22 : jchk 79 22 kX10_hasAll_22 = true := jb1 (jb2 (qq_X10_hasAll))
theorem qX10_hasAll_28 : jchk 79 28 kX10_hasAll_28 = true := jb2 (jb2 (qq_X10_hasAll))
def kX10_takeGoods_0 : List JI := [(.iconst 0, 1, 0, 0, 0, 0, 0),
  (.istore_n 1, 1, 1, 0, 0, 0, 0)]
def kX10_takeGoods_2 : List JI := [(.iload_n 1, 1, 1, 0, 0, 0, 0),
  (.aload_n 0, 1, 0, 0, 0, 0, 0),
  (.getfield 58, 3, 10, 6, 1, 0, 220),
  (.if_icmp .ge 102, 3, 109, 0, 0, 0, 0),
  (.aload_n 0, 1, 0, 0, 0, 0, 0),
  (.getfield 23, 3, 10, 3, 4, 0, 25),
  (.aload_n 0, 1, 0, 0, 0, 0, 0),
  (.getfield 27, 3, 10, 5, 4, 0, 26),
  (.iload_n 1, 1, 1, 0, 0, 0, 0),
  (.iaload, 1, 0, 0, 0, 0, 0),
  (.aaload, 1, 0, 0, 0, 0, 0),
  (.astore_n 2, 1, 2, 0, 0, 0, 0),
  (.aload_n 2, 1, 2, 0, 0, 0, 0),
  (.getfield 48, 3, 4, 3, 1, 0, 237),
  (.iconst 1, 1, 0, 1, 0, 0, 0),
  (.if_icmp .ne 76, 3, 103, 0, 0, 0, 0),
  (.aload_n 2, 1, 2, 0, 0, 0, 0),
  (.getfield 132, 3, 4, 7, 3, 0, 238),
  (.ifCond .eq 6, 3, 40, 0, 0, 0, 0),
  (.goto 66, 3, 103, 0, 0, 0, 0)]
def kX10_takeGoods_40 : List JI := [(.aload_n 0, 1, 0, 0, 0, 0, 0),
  (.aload_n 2, 1, 2, 0, 0, 0, 0),
  (.getfield 135, 3, 4, 11, 4, 0, 239),
  (.invokevirtual 138, 3, 79, 1, 0, 10, 240),
  (.ifCond .eq 45, 3, 93, 0, 0, 0, 0),
  (.iconst 0, 1, 0, 0, 0, 0, 0),
  (.istore_n 3, 1, 3, 0, 0, 0, 0)]
def kX10_takeGoods_53 : List JI := [(.iload_n 3, 1, 3, 0, 0, 0, 0),
  (.bipush 6, 2, 0, 6, 0, 0, 0),
  (.if_icmp .ge 24, 3, 80, 0, 0, 0, 0),
  (.aload_n 0, 1, 0, 0, 0, 0, 0),
  (.getfield 9, 3, 10, 0, 4, 0, 21),
  (.iload_n 3, 1, 3, 0, 0, 0, 0),
  (.dup2, 1, 0, 0, 0, 0, 0),
  (.iaload, 1, 0, 0, 0, 0, 0),
  (.aload_n 2, 1, 2, 0, 0, 0, 0),
  (.getfield 135, 3, 4, 11, 4, 0, 239),
  (.iload_n 3, 1, 3, 0, 0, 0, 0),
  (.iaload, 1, 0, 0, 0, 0, 0),
  (.isub, 1, 0, 0, 0, 0, 0),
  (.iastore, 1, 0, 0, 0, 0, 0),
  (.iinc 3 1, 3, 3, 1, 0, 0, 0),
  (.goto (-24), 3, 53, 0, 0, 0, 0)]
def kX10_takeGoods_80 : List JI := [(.aload_n 2, 1, 2, 0, 0, 0, 0),
  (.iconst 1, 1, 0, 1, 0, 0, 0),
  (.putfield 132, 3, 4, 7, 3, 0, 238),
  (.aload_n 0, 1, 0, 0, 0, 0, 0),
  (.iconst 1, 1, 0, 1, 0, 0, 0),
  (.putfield 78, 3, 10, 10, 3, 0, 233),
  (.goto 13, 3, 103, 0, 0, 0, 0)]
def kX10_takeGoods_93 : List JI := [(.aload_n 2, 1, 2, 0, 0, 0, 0),
  (.dup, 1, 0, 0, 0, 0, 0),
  (.getfield 142, 3, 4, 8, 1, 0, 241),
  (.iconst 1, 1, 0, 1, 0, 0, 0),
  (.iadd, 1, 0, 0, 0, 0, 0),
  (.putfield 142, 3, 4, 8, 1, 0, 241)]
def kX10_takeGoods_103 : List JI := [(.iinc 1 1, 3, 1, 1, 0, 0, 0),
  (.goto (-104), 3, 2, 0, 0, 0, 0)]
def kX10_takeGoods_109 : List JI := [(.return_, 1, 0, 0, 0, 0, 0)]
theorem qq_X10_takeGoods : (((jchk 80 0 kX10_takeGoods_0 && jchk 80 2 kX10_takeGoods_2) && (jchk 80 40 kX10_takeGoods_40 && jchk 80 53 kX10_takeGoods_53)) && ((jchk 80 80 kX10_takeGoods_80 && jchk 80 93 kX10_takeGoods_93) && (jchk 80 103 kX10_takeGoods_103 && jchk 80 109 kX10_takeGoods_109))) = true := by decide +kernel
theorem qX10_takeGoods_0 : jchk 80 0 kX10_takeGoods_0 = true := jb1 (jb1 (jb1 (qq_X10_takeGoods)))
theorem qX10_takeGoods_2 : jchk 80 2 kX10_takeGoods_2 = true := jb2 (jb1 (jb1 (qq_X10_takeGoods)))
theorem qX10_takeGoods_40 : jchk 80 40 kX10_takeGoods_40 = true := jb1 (jb2 (jb1 (qq_X10_takeGoods)))
theorem qX10_takeGoods_53 : jchk 80 53 kX10_takeGoods_53 = true := jb2 (jb2 (jb1 (qq_X10_takeGoods)))
theorem qX10_takeGoods_80 : jchk 80 80 kX10_takeGoods_80 = true := jb1 (jb1 (jb2 (qq_X10_takeGoods)))
theorem qX10_takeGoods_93 : jchk 80 93 kX10_takeGoods_93 = true := jb2 (jb1 (jb2 (qq_X10_takeGoods)))
theorem qX10_takeGoods_103 : jchk 80 103 kX10_takeGoods_103 = true := jb1 (jb2 (jb2 (qq_X10_takeGoods)))
theorem qX10_takeGoods_109 : jchk 80 109 kX10_takeGoods_109 = true := jb2 (jb2 (jb2 (qq_X10_takeGoods)))
