theorem dX9_isSquare_0 : decode cX9_isSquare 0 = .ok (.iload_n 0, 1) := by decide +kernel
theorem dX9_isSquare_1 : decode cX9_isSquare 1 = .ok (.bipush (-30), 2) := by decide +kernel
theorem dX9_isSquare_3 : decode cX9_isSquare 3 = .ok (.if_icmp .lt 25, 3) := by decide +kernel
theorem dX9_isSquare_28 : decode cX9_isSquare 28 = .ok (.iconst 0, 1) := by decide +kernel
theorem dX9_isSquare_29 : decode cX9_isSquare 29 = .ok (.ireturn, 1) := by decide +kernel
theorem dX9_isSquare_6 : decode cX9_isSquare 6 = .ok (.iload_n 0, 1) := by decide +kernel
theorem dX9_isSquare_7 : decode cX9_isSquare 7 = .ok (.bipush 30, 2) := by decide +kernel
theorem dX9_isSquare_9 : decode cX9_isSquare 9 = .ok (.if_icmp .gt 19, 3) := by decide +kernel
theorem dX9_isSquare_12 : decode cX9_isSquare 12 = .ok (.iload_n 1, 1) := by decide +kernel
theorem dX9_isSquare_13 : decode cX9_isSquare 13 = .ok (.bipush (-30), 2) := by decide +kernel
theorem dX9_isSquare_15 : decode cX9_isSquare 15 = .ok (.if_icmp .lt 13, 3) := by decide +kernel
theorem dX9_isSquare_18 : decode cX9_isSquare 18 = .ok (.iload_n 1, 1) := by decide +kernel
theorem dX9_isSquare_19 : decode cX9_isSquare 19 = .ok (.bipush 30, 2) := by decide +kernel
theorem dX9_isSquare_21 : decode cX9_isSquare 21 = .ok (.if_icmp .gt 7, 3) := by decide +kernel
theorem dX9_isSquare_24 : decode cX9_isSquare 24 = .ok (.iconst 1, 1) := by decide +kernel
theorem dX9_isSquare_25 : decode cX9_isSquare 25 = .ok (.goto 4, 3) := by decide +kernel
theorem dX9_squareOf_0 : decode cX9_squareOf 0 = .ok (.bipush 61, 2) := by decide +kernel
theorem dX9_squareOf_2 : decode cX9_squareOf 2 = .ok (.iload_n 0, 1) := by decide +kernel
theorem dX9_squareOf_3 : decode cX9_squareOf 3 = .ok (.bipush 30, 2) := by decide +kernel
theorem dX9_squareOf_5 : decode cX9_squareOf 5 = .ok (.iadd, 1) := by decide +kernel
theorem dX9_squareOf_6 : decode cX9_squareOf 6 = .ok (.imul, 1) := by decide +kernel
theorem dX9_squareOf_7 : decode cX9_squareOf 7 = .ok (.iload_n 1, 1) := by decide +kernel
theorem dX9_squareOf_8 : decode cX9_squareOf 8 = .ok (.iadd, 1) := by decide +kernel
theorem dX9_squareOf_9 : decode cX9_squareOf 9 = .ok (.bipush 30, 2) := by decide +kernel
theorem dX9_squareOf_11 : decode cX9_squareOf 11 = .ok (.iadd, 1) := by decide +kernel
theorem dX9_squareOf_12 : decode cX9_squareOf 12 = .ok (.ireturn, 1) := by decide +kernel
theorem dX9_xOf_0 : decode cX9_xOf 0 = .ok (.iload_n 0, 1) := by decide +kernel
theorem dX9_xOf_1 : decode cX9_xOf 1 = .ok (.bipush 61, 2) := by decide +kernel
theorem dX9_xOf_3 : decode cX9_xOf 3 = .ok (.idiv, 1) := by decide +kernel
theorem dX9_xOf_4 : decode cX9_xOf 4 = .ok (.bipush 30, 2) := by decide +kernel
theorem dX9_xOf_6 : decode cX9_xOf 6 = .ok (.isub, 1) := by decide +kernel
theorem dX9_xOf_7 : decode cX9_xOf 7 = .ok (.ireturn, 1) := by decide +kernel
theorem dX9_yOf_0 : decode cX9_yOf 0 = .ok (.iload_n 0, 1) := by decide +kernel
theorem dX9_yOf_1 : decode cX9_yOf 1 = .ok (.bipush 61, 2) := by decide +kernel
theorem dX9_yOf_3 : decode cX9_yOf 3 = .ok (.irem, 1) := by decide +kernel
theorem dX9_yOf_4 : decode cX9_yOf 4 = .ok (.bipush 30, 2) := by decide +kernel
theorem dX9_yOf_6 : decode cX9_yOf 6 = .ok (.isub, 1) := by decide +kernel
theorem dX9_yOf_7 : decode cX9_yOf 7 = .ok (.ireturn, 1) := by decide +kernel
