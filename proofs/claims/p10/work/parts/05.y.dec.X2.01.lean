theorem dX2_arrives_23 : decode cX2_arrives 23 = .ok (.astore 4, 2) := by decide +kernel
theorem dX2_arrives_25 : decode cX2_arrives 25 = .ok (.aload 4, 2) := by decide +kernel
theorem dX2_arrives_27 : decode cX2_arrives 27 = .ok (.getfield 47, 3) := by decide +kernel
theorem dX2_arrives_30 : decode cX2_arrives 30 = .ok (.ifCond .ge 16, 3) := by decide +kernel
theorem dX2_arrives_33 : decode cX2_arrives 33 = .ok (.aload 4, 2) := by decide +kernel
theorem dX2_arrives_35 : decode cX2_arrives 35 = .ok (.aload_n 3, 1) := by decide +kernel
theorem dX2_arrives_36 : decode cX2_arrives 36 = .ok (.invokevirtual 72, 3) := by decide +kernel
theorem dX2_arrives_39 : decode cX2_arrives 39 = .ok (.aload_n 0, 1) := by decide +kernel
theorem dX2_arrives_40 : decode cX2_arrives 40 = .ok (.iconst 1, 1) := by decide +kernel
theorem dX2_arrives_41 : decode cX2_arrives 41 = .ok (.putfield 119, 3) := by decide +kernel
theorem dX2_arrives_44 : decode cX2_arrives 44 = .ok (.iconst 1, 1) := by decide +kernel
theorem dX2_arrives_45 : decode cX2_arrives 45 = .ok (.ireturn, 1) := by decide +kernel
theorem dX2_arrives_46 : decode cX2_arrives 46 = .ok (.aload 4, 2) := by decide +kernel
theorem dX2_arrives_48 : decode cX2_arrives 48 = .ok (.getfield 47, 3) := by decide +kernel
theorem dX2_arrives_51 : decode cX2_arrives 51 = .ok (.aload_n 3, 1) := by decide +kernel
theorem dX2_arrives_52 : decode cX2_arrives 52 = .ok (.getfield 47, 3) := by decide +kernel
theorem dX2_arrives_55 : decode cX2_arrives 55 = .ok (.if_icmp .eq 5, 3) := by decide +kernel
theorem dX2_arrives_58 : decode cX2_arrives 58 = .ok (.iconst 0, 1) := by decide +kernel
theorem dX2_arrives_59 : decode cX2_arrives 59 = .ok (.ireturn, 1) := by decide +kernel
theorem dX2_arrives_60 : decode cX2_arrives 60 = .ok (.aload 4, 2) := by decide +kernel
theorem dX2_arrives_62 : decode cX2_arrives 62 = .ok (.aload_n 3, 1) := by decide +kernel
theorem dX2_arrives_63 : decode cX2_arrives 63 = .ok (.invokevirtual 126, 3) := by decide +kernel
theorem dX2_arrives_66 : decode cX2_arrives 66 = .ok (.ifCond .eq 8, 3) := by decide +kernel
theorem dX2_arrives_69 : decode cX2_arrives 69 = .ok (.aload_n 0, 1) := by decide +kernel
theorem dX2_arrives_70 : decode cX2_arrives 70 = .ok (.iconst 1, 1) := by decide +kernel
theorem dX2_arrives_71 : decode cX2_arrives 71 = .ok (.putfield 119, 3) := by decide +kernel
theorem dX2_arrives_74 : decode cX2_arrives 74 = .ok (.iconst 1, 1) := by decide +kernel
theorem dX2_arrives_75 : decode cX2_arrives 75 = .ok (.ireturn, 1) := by decide +kernel
