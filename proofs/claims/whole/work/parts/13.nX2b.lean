theorem dX2_lesserAfter_128 : decode cX2_lesserAfter 128 = .ok (.goto (-55), 3) := by decide +kernel
theorem dX2_lesserAfter_131 : decode cX2_lesserAfter 131 = .ok (.iload 9, 2) := by decide +kernel
theorem dX2_lesserAfter_133 : decode cX2_lesserAfter 133 = .ok (.ireturn, 1) := by decide +kernel
theorem dX2_lowestAfter_0 : decode cX2_lowestAfter 0 = .ok (.bipush (-10), 2) := by decide +kernel
theorem dX2_lowestAfter_2 : decode cX2_lowestAfter 2 = .ok (.iload_n 2, 1) := by decide +kernel
theorem dX2_lowestAfter_3 : decode cX2_lowestAfter 3 = .ok (.aload_n 0, 1) := by decide +kernel
theorem dX2_lowestAfter_4 : decode cX2_lowestAfter 4 = .ok (.getfield 22, 3) := by decide +kernel
theorem dX2_lowestAfter_7 : decode cX2_lowestAfter 7 = .ok (.isub, 1) := by decide +kernel
theorem dX2_lowestAfter_8 : decode cX2_lowestAfter 8 = .ok (.iconst 2, 1) := by decide +kernel
theorem dX2_lowestAfter_9 : decode cX2_lowestAfter 9 = .ok (.iload_n 2, 1) := by decide +kernel
theorem dX2_lowestAfter_10 : decode cX2_lowestAfter 10 = .ok (.imul, 1) := by decide +kernel
theorem dX2_lowestAfter_11 : decode cX2_lowestAfter 11 = .ok (.iload_n 1, 1) := by decide +kernel
theorem dX2_lowestAfter_12 : decode cX2_lowestAfter 12 = .ok (.isub, 1) := by decide +kernel
theorem dX2_lowestAfter_13 : decode cX2_lowestAfter 13 = .ok (.aload_n 0, 1) := by decide +kernel
theorem dX2_lowestAfter_14 : decode cX2_lowestAfter 14 = .ok (.getfield 25, 3) := by decide +kernel
theorem dX2_lowestAfter_17 : decode cX2_lowestAfter 17 = .ok (.isub, 1) := by decide +kernel
theorem dX2_lowestAfter_18 : decode cX2_lowestAfter 18 = .ok (.invokestatic 63, 3) := by decide +kernel
theorem dX2_lowestAfter_21 : decode cX2_lowestAfter 21 = .ok (.invokestatic 63, 3) := by decide +kernel
theorem dX2_lowestAfter_24 : decode cX2_lowestAfter 24 = .ok (.ireturn, 1) := by decide +kernel
theorem dX2_highestAfter_0 : decode cX2_highestAfter 0 = .ok (.bipush 10, 2) := by decide +kernel
theorem dX2_highestAfter_2 : decode cX2_highestAfter 2 = .ok (.iload_n 2, 1) := by decide +kernel
theorem dX2_highestAfter_3 : decode cX2_highestAfter 3 = .ok (.aload_n 0, 1) := by decide +kernel
theorem dX2_highestAfter_4 : decode cX2_highestAfter 4 = .ok (.getfield 22, 3) := by decide +kernel
theorem dX2_highestAfter_7 : decode cX2_highestAfter 7 = .ok (.iadd, 1) := by decide +kernel
theorem dX2_highestAfter_8 : decode cX2_highestAfter 8 = .ok (.iconst 2, 1) := by decide +kernel
theorem dX2_highestAfter_9 : decode cX2_highestAfter 9 = .ok (.iload_n 2, 1) := by decide +kernel
theorem dX2_highestAfter_10 : decode cX2_highestAfter 10 = .ok (.imul, 1) := by decide +kernel
theorem dX2_highestAfter_11 : decode cX2_highestAfter 11 = .ok (.iload_n 1, 1) := by decide +kernel
theorem dX2_highestAfter_12 : decode cX2_highestAfter 12 = .ok (.isub, 1) := by decide +kernel
theorem dX2_highestAfter_13 : decode cX2_highestAfter 13 = .ok (.aload_n 0, 1) := by decide +kernel
theorem dX2_highestAfter_14 : decode cX2_highestAfter 14 = .ok (.getfield 25, 3) := by decide +kernel
theorem dX2_highestAfter_17 : decode cX2_highestAfter 17 = .ok (.iadd, 1) := by decide +kernel
theorem dX2_highestAfter_18 : decode cX2_highestAfter 18 = .ok (.invokestatic 86, 3) := by decide +kernel
theorem dX2_highestAfter_21 : decode cX2_highestAfter 21 = .ok (.invokestatic 86, 3) := by decide +kernel
theorem dX2_highestAfter_24 : decode cX2_highestAfter 24 = .ok (.ireturn, 1) := by decide +kernel
theorem dX2_spot_0 : decode cX2_spot 0 = .ok (.iload_n 0, 1) := by decide +kernel
theorem dX2_spot_1 : decode cX2_spot 1 = .ok (.bipush 21, 2) := by decide +kernel
theorem dX2_spot_3 : decode cX2_spot 3 = .ok (.imul, 1) := by decide +kernel
theorem dX2_spot_4 : decode cX2_spot 4 = .ok (.iload_n 1, 1) := by decide +kernel
theorem dX2_spot_5 : decode cX2_spot 5 = .ok (.iadd, 1) := by decide +kernel
theorem dX2_spot_6 : decode cX2_spot 6 = .ok (.bipush 10, 2) := by decide +kernel
theorem dX2_spot_8 : decode cX2_spot 8 = .ok (.iadd, 1) := by decide +kernel
theorem dX2_spot_9 : decode cX2_spot 9 = .ok (.bipush 21, 2) := by decide +kernel
theorem dX2_spot_11 : decode cX2_spot 11 = .ok (.imul, 1) := by decide +kernel
theorem dX2_spot_12 : decode cX2_spot 12 = .ok (.iload_n 2, 1) := by decide +kernel
theorem dX2_spot_13 : decode cX2_spot 13 = .ok (.iadd, 1) := by decide +kernel
theorem dX2_spot_14 : decode cX2_spot 14 = .ok (.bipush 10, 2) := by decide +kernel
theorem dX2_spot_16 : decode cX2_spot 16 = .ok (.iadd, 1) := by decide +kernel
theorem dX2_spot_17 : decode cX2_spot 17 = .ok (.ireturn, 1) := by decide +kernel
