theorem dX5_stepsOnWay_24 : decode cX5_stepsOnWay 24 = .ok (.ireturn, 1) := by decide +kernel
theorem dX5_mostStepsOnWay_0 : decode cX5_mostStepsOnWay 0 = .ok (.iconst 0, 1) := by decide +kernel
theorem dX5_mostStepsOnWay_1 : decode cX5_mostStepsOnWay 1 = .ok (.istore_n 1, 1) := by decide +kernel
theorem dX5_mostStepsOnWay_2 : decode cX5_mostStepsOnWay 2 = .ok (.aload_n 0, 1) := by decide +kernel
theorem dX5_mostStepsOnWay_3 : decode cX5_mostStepsOnWay 3 = .ok (.astore_n 2, 1) := by decide +kernel
theorem dX5_mostStepsOnWay_4 : decode cX5_mostStepsOnWay 4 = .ok (.aload_n 2, 1) := by decide +kernel
theorem dX5_mostStepsOnWay_5 : decode cX5_mostStepsOnWay 5 = .ok (.ifnull 20, 3) := by decide +kernel
theorem dX5_mostStepsOnWay_8 : decode cX5_mostStepsOnWay 8 = .ok (.iload_n 1, 1) := by decide +kernel
theorem dX5_mostStepsOnWay_9 : decode cX5_mostStepsOnWay 9 = .ok (.aload_n 2, 1) := by decide +kernel
theorem dX5_mostStepsOnWay_10 : decode cX5_mostStepsOnWay 10 = .ok (.getfield 32, 3) := by decide +kernel
theorem dX5_mostStepsOnWay_13 : decode cX5_mostStepsOnWay 13 = .ok (.invokestatic 103, 3) := by decide +kernel
theorem dX5_mostStepsOnWay_16 : decode cX5_mostStepsOnWay 16 = .ok (.istore_n 1, 1) := by decide +kernel
theorem dX5_mostStepsOnWay_17 : decode cX5_mostStepsOnWay 17 = .ok (.aload_n 2, 1) := by decide +kernel
theorem dX5_mostStepsOnWay_18 : decode cX5_mostStepsOnWay 18 = .ok (.getfield 35, 3) := by decide +kernel
theorem dX5_mostStepsOnWay_21 : decode cX5_mostStepsOnWay 21 = .ok (.astore_n 2, 1) := by decide +kernel
theorem dX5_mostStepsOnWay_22 : decode cX5_mostStepsOnWay 22 = .ok (.goto (-18), 3) := by decide +kernel
theorem dX5_mostStepsOnWay_25 : decode cX5_mostStepsOnWay 25 = .ok (.iload_n 1, 1) := by decide +kernel
theorem dX5_mostStepsOnWay_26 : decode cX5_mostStepsOnWay 26 = .ok (.ireturn, 1) := by decide +kernel
