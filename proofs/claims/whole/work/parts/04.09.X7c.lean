theorem dX7_codeRow_43 : decode cX7_codeRow 43 = .ok (.iload 6, 2) := by decide +kernel
theorem dX7_codeRow_45 : decode cX7_codeRow 45 = .ok (.invokevirtual 117, 3) := by decide +kernel
theorem dX7_codeRow_48 : decode cX7_codeRow 48 = .ok (.aload_n 0, 1) := by decide +kernel
theorem dX7_codeRow_49 : decode cX7_codeRow 49 = .ok (.dup, 1) := by decide +kernel
theorem dX7_codeRow_50 : decode cX7_codeRow 50 = .ok (.getfield 64, 3) := by decide +kernel
theorem dX7_codeRow_53 : decode cX7_codeRow 53 = .ok (.iconst 1, 1) := by decide +kernel
theorem dX7_codeRow_54 : decode cX7_codeRow 54 = .ok (.iadd, 1) := by decide +kernel
theorem dX7_codeRow_55 : decode cX7_codeRow 55 = .ok (.putfield 64, 3) := by decide +kernel
theorem dX7_codeRow_58 : decode cX7_codeRow 58 = .ok (.goto 46, 3) := by decide +kernel
theorem dX7_codeRow_61 : decode cX7_codeRow 61 = .ok (.aload_n 0, 1) := by decide +kernel
theorem dX7_codeRow_62 : decode cX7_codeRow 62 = .ok (.getfield 24, 3) := by decide +kernel
theorem dX7_codeRow_65 : decode cX7_codeRow 65 = .ok (.aload_n 2, 1) := by decide +kernel
theorem dX7_codeRow_66 : decode cX7_codeRow 66 = .ok (.iload 5, 2) := by decide +kernel
theorem dX7_codeRow_68 : decode cX7_codeRow 68 = .ok (.iload_n 3, 1) := by decide +kernel
theorem dX7_codeRow_69 : decode cX7_codeRow 69 = .ok (.invokevirtual 194, 3) := by decide +kernel
theorem dX7_codeRow_72 : decode cX7_codeRow 72 = .ok (.istore 7, 2) := by decide +kernel
theorem dX7_codeRow_74 : decode cX7_codeRow 74 = .ok (.aload_n 2, 1) := by decide +kernel
theorem dX7_codeRow_75 : decode cX7_codeRow 75 = .ok (.iload 5, 2) := by decide +kernel
theorem dX7_codeRow_77 : decode cX7_codeRow 77 = .ok (.iload_n 3, 1) := by decide +kernel
theorem dX7_codeRow_78 : decode cX7_codeRow 78 = .ok (.aload_n 1, 1) := by decide +kernel
theorem dX7_codeRow_79 : decode cX7_codeRow 79 = .ok (.iload 7, 2) := by decide +kernel
theorem dX7_codeRow_81 : decode cX7_codeRow 81 = .ok (.aload_n 2, 1) := by decide +kernel
theorem dX7_codeRow_82 : decode cX7_codeRow 82 = .ok (.iload 5, 2) := by decide +kernel
theorem dX7_codeRow_84 : decode cX7_codeRow 84 = .ok (.iload_n 3, 1) := by decide +kernel
theorem dX7_codeRow_85 : decode cX7_codeRow 85 = .ok (.invokevirtual 113, 3) := by decide +kernel
theorem dX7_codeRow_88 : decode cX7_codeRow 88 = .ok (.invokevirtual 225, 3) := by decide +kernel
theorem dX7_codeRow_91 : decode cX7_codeRow 91 = .ok (.invokevirtual 117, 3) := by decide +kernel
theorem dX7_codeRow_94 : decode cX7_codeRow 94 = .ok (.aload_n 0, 1) := by decide +kernel
theorem dX7_codeRow_95 : decode cX7_codeRow 95 = .ok (.dup, 1) := by decide +kernel
theorem dX7_codeRow_96 : decode cX7_codeRow 96 = .ok (.getfield 71, 3) := by decide +kernel
theorem dX7_codeRow_99 : decode cX7_codeRow 99 = .ok (.iconst 1, 1) := by decide +kernel
theorem dX7_codeRow_100 : decode cX7_codeRow 100 = .ok (.iadd, 1) := by decide +kernel
theorem dX7_codeRow_101 : decode cX7_codeRow 101 = .ok (.putfield 71, 3) := by decide +kernel
theorem dX7_codeRow_104 : decode cX7_codeRow 104 = .ok (.iinc 5 1, 3) := by decide +kernel
theorem dX7_codeRow_107 : decode cX7_codeRow 107 = .ok (.goto (-104), 3) := by decide +kernel
theorem dX7_codeRow_110 : decode cX7_codeRow 110 = .ok (.return_, 1) := by decide +kernel
