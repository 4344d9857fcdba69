theorem GCM1 (w0 : Int64) : GC1 w0 ↔ GM1 w0 := by
  unfold GC1 GM1
  rw [by_0 w0]
theorem GCM2 (w0 : Int64) : GC2 w0 ↔ GM2 w0 := by
  unfold GC2 GM2
  rw [by_0 w0, by_1 w0]
theorem GCM3 (w0 : Int64) : GC3 w0 ↔ GM3 w0 := by
  unfold GC3 GM3
  rw [by_0 w0, by_1 w0, by_2 w0]
theorem GCM4 (w0 : Int64) : GC4 w0 ↔ GM4 w0 := by
  unfold GC4 GM4
  rw [by_0 w0, by_1 w0, by_2 w0, by_3 w0]
theorem GCM5 (w0 : Int64) : GC5 w0 ↔ GM5 w0 := by
  unfold GC5 GM5
  rw [by_0 w0, by_1 w0, by_2 w0, by_3 w0, by_4 w0]
theorem GCM6 (w0 : Int64) : GC6 w0 ↔ GM6 w0 := by
  unfold GC6 GM6
  rw [by_0 w0, by_1 w0, by_2 w0, by_3 w0, by_4 w0, by_5 w0]
theorem GCM7 (w0 : Int64) : GC7 w0 ↔ GM7 w0 := by
  unfold GC7 GM7
  rw [by_0 w0, by_1 w0, by_2 w0, by_3 w0, by_4 w0, by_5 w0, by_6 w0]
theorem GCM8 (w0 : Int64) : GC8 w0 ↔ GM8 w0 := by
  unfold GC8 GM8
  rw [by_0 w0, by_1 w0, by_2 w0, by_3 w0, by_4 w0, by_5 w0, by_6 w0, by_7 w0]
