theorem da9_dX9_nextDraw_0 : (decode cX9_nextDraw 0 = .ok (.iload_n 0, 1)) ∧ (decode cX9_nextDraw 1 = .ok (.i2l, 1)) ∧ (decode cX9_nextDraw 2 = .ok (.ldc2_w 350, 3)) ∧ (decode cX9_nextDraw 5 = .ok (.lmul, 1)) ∧ (decode cX9_nextDraw 6 = .ok (.ldc2_w 352, 3)) ∧ (decode cX9_nextDraw 9 = .ok (.ladd, 1)) ∧ (decode cX9_nextDraw 10 = .ok (.ldc2_w 354, 3)) ∧ (decode cX9_nextDraw 13 = .ok (.lrem, 1)) ∧ (decode cX9_nextDraw 14 = .ok (.l2i, 1)) ∧ (decode cX9_nextDraw 15 = .ok (.ireturn, 1)) := by decide +kernel
theorem dX9_nextDraw_0 : decode cX9_nextDraw 0 = .ok (.iload_n 0, 1) := da9_dX9_nextDraw_0.1
theorem dX9_nextDraw_1 : decode cX9_nextDraw 1 = .ok (.i2l, 1) := da9_dX9_nextDraw_0.2.1
theorem dX9_nextDraw_2 : decode cX9_nextDraw 2 = .ok (.ldc2_w 350, 3) := da9_dX9_nextDraw_0.2.2.1
theorem dX9_nextDraw_5 : decode cX9_nextDraw 5 = .ok (.lmul, 1) := da9_dX9_nextDraw_0.2.2.2.1
theorem dX9_nextDraw_6 : decode cX9_nextDraw 6 = .ok (.ldc2_w 352, 3) := da9_dX9_nextDraw_0.2.2.2.2.1
theorem dX9_nextDraw_9 : decode cX9_nextDraw 9 = .ok (.ladd, 1) := da9_dX9_nextDraw_0.2.2.2.2.2.1
theorem dX9_nextDraw_10 : decode cX9_nextDraw 10 = .ok (.ldc2_w 354, 3) := da9_dX9_nextDraw_0.2.2.2.2.2.2.1
theorem dX9_nextDraw_13 : decode cX9_nextDraw 13 = .ok (.lrem, 1) := da9_dX9_nextDraw_0.2.2.2.2.2.2.2.1
theorem dX9_nextDraw_14 : decode cX9_nextDraw 14 = .ok (.l2i, 1) := da9_dX9_nextDraw_0.2.2.2.2.2.2.2.2.1
theorem dX9_nextDraw_15 : decode cX9_nextDraw 15 = .ok (.ireturn, 1) := da9_dX9_nextDraw_0.2.2.2.2.2.2.2.2.2
