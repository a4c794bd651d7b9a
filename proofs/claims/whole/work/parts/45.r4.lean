section R4
variable {p : Program} {l : Launch} {e : Env} {R : Room} {s : State} {m : MethodId} {args : Array Value} {below : List Frame} {meth : Method} {c : Code} {Q : State → Prop} {D : va_G} {tc : Nat → ClassId} {sz : Nat} {tk : Nat → Nat} {hz : Option Nat} {w : Nat → va_E}
variable {f g h f1 f2 : Nat → Int64} {len N i j k a b n0 : Nat} {x : Int64} {r u r1 e0 : Nat → Int32} {y co : Int32} {bb b1 : Nat → Int64}
variable {zm aa ss bq ee zw wr sm xx yy : Nat → Int32} {sd se mk : Nat → Int64}
def mn_ (tc : Nat → ClassId) (w : Nat → va_E) (zm : Nat → Int32) (sd : Nat → Int64) (se : Nat → Int64) (mk : Nat → Int64) (aa : Nat → Int32) (ss : Nat → Int32) (bq : Nat → Int32) (ee : Nat → Int32) (zw : Nat → Int32) (wr : Nat → Int32) (sm : Nat → Int32) (xx : Nat → Int32) (yy : Nat → Int32) : Nat → va_E := fun k => if k = 77 then .inl (tc 2, 4, .inl zm) else if k = 78 then .inl (tc 1, 4, .inr (.inl sd)) else if k = 79 then .inl (tc 1, 4, .inr (.inl se)) else if k = 80 then .inl (tc 1, 4, .inr (.inl mk)) else if k = 81 then .inl (tc 0, 256, .inl aa) else if k = 82 then .inl (tc 0, 128, .inl ss) else if k = 83 then .inl (tc 0, 128, .inl bq) else if k = 84 then .inl (tc 0, 128, .inl ee) else if k = 85 then .inl (tc 2, 4, .inl zw) else if k = 86 then .inl (tc 0, 450, .inl wr) else if k = 87 then .inl (tc 0, 80, .inl sm) else if k = 88 then .inl (tc 0, 32, .inl xx) else if k = 89 then .inl (tc 0, 16, .inl yy) else w k
theorem mq_77 : rq_ tc sz (mn_ tc w zm sd se mk aa ss bq ee zw wr sm xx yy) co n0 f g h r u 77 = .inl (tc 2, 4, .inl zm) := rfl
theorem mq_78 : rq_ tc sz (mn_ tc w zm sd se mk aa ss bq ee zw wr sm xx yy) co n0 f g h r u 78 = .inl (tc 1, 4, .inr (.inl sd)) := rfl
theorem mq_79 : rq_ tc sz (mn_ tc w zm sd se mk aa ss bq ee zw wr sm xx yy) co n0 f g h r u 79 = .inl (tc 1, 4, .inr (.inl se)) := rfl
theorem mq_80 : rq_ tc sz (mn_ tc w zm sd se mk aa ss bq ee zw wr sm xx yy) co n0 f g h r u 80 = .inl (tc 1, 4, .inr (.inl mk)) := rfl
theorem mq_81 : rq_ tc sz (mn_ tc w zm sd se mk aa ss bq ee zw wr sm xx yy) co n0 f g h r u 81 = .inl (tc 0, 256, .inl aa) := rfl
theorem mq_82 : rq_ tc sz (mn_ tc w zm sd se mk aa ss bq ee zw wr sm xx yy) co n0 f g h r u 82 = .inl (tc 0, 128, .inl ss) := rfl
theorem mq_83 : rq_ tc sz (mn_ tc w zm sd se mk aa ss bq ee zw wr sm xx yy) co n0 f g h r u 83 = .inl (tc 0, 128, .inl bq) := rfl
theorem mq_84 : rq_ tc sz (mn_ tc w zm sd se mk aa ss bq ee zw wr sm xx yy) co n0 f g h r u 84 = .inl (tc 0, 128, .inl ee) := rfl
theorem mq_85 : rq_ tc sz (mn_ tc w zm sd se mk aa ss bq ee zw wr sm xx yy) co n0 f g h r u 85 = .inl (tc 2, 4, .inl zw) := rfl
theorem mq_86 : rq_ tc sz (mn_ tc w zm sd se mk aa ss bq ee zw wr sm xx yy) co n0 f g h r u 86 = .inl (tc 0, 450, .inl wr) := rfl
theorem mq_87 : rq_ tc sz (mn_ tc w zm sd se mk aa ss bq ee zw wr sm xx yy) co n0 f g h r u 87 = .inl (tc 0, 80, .inl sm) := rfl
theorem mq_88 : rq_ tc sz (mn_ tc w zm sd se mk aa ss bq ee zw wr sm xx yy) co n0 f g h r u 88 = .inl (tc 0, 32, .inl xx) := rfl
theorem mq_89 : rq_ tc sz (mn_ tc w zm sd se mk aa ss bq ee zw wr sm xx yy) co n0 f g h r u 89 = .inl (tc 0, 16, .inl yy) := rfl
theorem mn_u77 {v : Nat → Int32} : va_up (mn_ tc w zm sd se mk aa ss bq ee zw wr sm xx yy) 77 (.inl (tc 2, 4, .inl v)) = mn_ tc w v sd se mk aa ss bq ee zw wr sm xx yy := by
  funext k
  by_cases h77 : k = 77
  · subst h77; rfl
  by_cases h78 : k = 78
  · subst h78; rfl
  by_cases h79 : k = 79
  · subst h79; rfl
  by_cases h80 : k = 80
  · subst h80; rfl
  by_cases h81 : k = 81
  · subst h81; rfl
  by_cases h82 : k = 82
  · subst h82; rfl
  by_cases h83 : k = 83
  · subst h83; rfl
  by_cases h84 : k = 84
  · subst h84; rfl
  by_cases h85 : k = 85
  · subst h85; rfl
  by_cases h86 : k = 86
  · subst h86; rfl
  by_cases h87 : k = 87
  · subst h87; rfl
  by_cases h88 : k = 88
  · subst h88; rfl
  by_cases h89 : k = 89
  · subst h89; rfl
  simp [va_up, mn_, h77, h78, h79, h80, h81, h82, h83, h84, h85, h86, h87, h88, h89]
theorem mq_u77 {v : Nat → Int32} : va_up (rq_ tc sz (mn_ tc w zm sd se mk aa ss bq ee zw wr sm xx yy) co n0 f g h r u) 77 (.inl (tc 2, 4, .inl v)) = rq_ tc sz (mn_ tc w v sd se mk aa ss bq ee zw wr sm xx yy) co n0 f g h r u := by
  rw [rq_up (by decide), mn_u77]
theorem mn_u78 {v : Nat → Int64} : va_up (mn_ tc w zm sd se mk aa ss bq ee zw wr sm xx yy) 78 (.inl (tc 1, 4, .inr (.inl v))) = mn_ tc w zm v se mk aa ss bq ee zw wr sm xx yy := by
  funext k
  by_cases h77 : k = 77
  · subst h77; rfl
  by_cases h78 : k = 78
  · subst h78; rfl
  by_cases h79 : k = 79
  · subst h79; rfl
  by_cases h80 : k = 80
  · subst h80; rfl
  by_cases h81 : k = 81
  · subst h81; rfl
  by_cases h82 : k = 82
  · subst h82; rfl
  by_cases h83 : k = 83
  · subst h83; rfl
  by_cases h84 : k = 84
  · subst h84; rfl
  by_cases h85 : k = 85
  · subst h85; rfl
  by_cases h86 : k = 86
  · subst h86; rfl
  by_cases h87 : k = 87
  · subst h87; rfl
  by_cases h88 : k = 88
  · subst h88; rfl
  by_cases h89 : k = 89
  · subst h89; rfl
  simp [va_up, mn_, h77, h78, h79, h80, h81, h82, h83, h84, h85, h86, h87, h88, h89]
theorem mq_u78 {v : Nat → Int64} : va_up (rq_ tc sz (mn_ tc w zm sd se mk aa ss bq ee zw wr sm xx yy) co n0 f g h r u) 78 (.inl (tc 1, 4, .inr (.inl v))) = rq_ tc sz (mn_ tc w zm v se mk aa ss bq ee zw wr sm xx yy) co n0 f g h r u := by
  rw [rq_up (by decide), mn_u78]
theorem mn_u79 {v : Nat → Int64} : va_up (mn_ tc w zm sd se mk aa ss bq ee zw wr sm xx yy) 79 (.inl (tc 1, 4, .inr (.inl v))) = mn_ tc w zm sd v mk aa ss bq ee zw wr sm xx yy := by
  funext k
  by_cases h77 : k = 77
  · subst h77; rfl
  by_cases h78 : k = 78
  · subst h78; rfl
  by_cases h79 : k = 79
  · subst h79; rfl
  by_cases h80 : k = 80
  · subst h80; rfl
  by_cases h81 : k = 81
  · subst h81; rfl
  by_cases h82 : k = 82
  · subst h82; rfl
  by_cases h83 : k = 83
  · subst h83; rfl
  by_cases h84 : k = 84
  · subst h84; rfl
  by_cases h85 : k = 85
  · subst h85; rfl
  by_cases h86 : k = 86
  · subst h86; rfl
  by_cases h87 : k = 87
  · subst h87; rfl
  by_cases h88 : k = 88
  · subst h88; rfl
  by_cases h89 : k = 89
  · subst h89; rfl
  simp [va_up, mn_, h77, h78, h79, h80, h81, h82, h83, h84, h85, h86, h87, h88, h89]
theorem mq_u79 {v : Nat → Int64} : va_up (rq_ tc sz (mn_ tc w zm sd se mk aa ss bq ee zw wr sm xx yy) co n0 f g h r u) 79 (.inl (tc 1, 4, .inr (.inl v))) = rq_ tc sz (mn_ tc w zm sd v mk aa ss bq ee zw wr sm xx yy) co n0 f g h r u := by
  rw [rq_up (by decide), mn_u79]
theorem mn_u80 {v : Nat → Int64} : va_up (mn_ tc w zm sd se mk aa ss bq ee zw wr sm xx yy) 80 (.inl (tc 1, 4, .inr (.inl v))) = mn_ tc w zm sd se v aa ss bq ee zw wr sm xx yy := by
  funext k
  by_cases h77 : k = 77
  · subst h77; rfl
  by_cases h78 : k = 78
  · subst h78; rfl
  by_cases h79 : k = 79
  · subst h79; rfl
  by_cases h80 : k = 80
  · subst h80; rfl
  by_cases h81 : k = 81
  · subst h81; rfl
  by_cases h82 : k = 82
  · subst h82; rfl
  by_cases h83 : k = 83
  · subst h83; rfl
  by_cases h84 : k = 84
  · subst h84; rfl
  by_cases h85 : k = 85
  · subst h85; rfl
  by_cases h86 : k = 86
  · subst h86; rfl
  by_cases h87 : k = 87
  · subst h87; rfl
  by_cases h88 : k = 88
  · subst h88; rfl
  by_cases h89 : k = 89
  · subst h89; rfl
  simp [va_up, mn_, h77, h78, h79, h80, h81, h82, h83, h84, h85, h86, h87, h88, h89]
theorem mq_u80 {v : Nat → Int64} : va_up (rq_ tc sz (mn_ tc w zm sd se mk aa ss bq ee zw wr sm xx yy) co n0 f g h r u) 80 (.inl (tc 1, 4, .inr (.inl v))) = rq_ tc sz (mn_ tc w zm sd se v aa ss bq ee zw wr sm xx yy) co n0 f g h r u := by
  rw [rq_up (by decide), mn_u80]
theorem mn_u81 {v : Nat → Int32} : va_up (mn_ tc w zm sd se mk aa ss bq ee zw wr sm xx yy) 81 (.inl (tc 0, 256, .inl v)) = mn_ tc w zm sd se mk v ss bq ee zw wr sm xx yy := by
  funext k
  by_cases h77 : k = 77
  · subst h77; rfl
  by_cases h78 : k = 78
  · subst h78; rfl
  by_cases h79 : k = 79
  · subst h79; rfl
  by_cases h80 : k = 80
  · subst h80; rfl
  by_cases h81 : k = 81
  · subst h81; rfl
  by_cases h82 : k = 82
  · subst h82; rfl
  by_cases h83 : k = 83
  · subst h83; rfl
  by_cases h84 : k = 84
  · subst h84; rfl
  by_cases h85 : k = 85
  · subst h85; rfl
  by_cases h86 : k = 86
  · subst h86; rfl
  by_cases h87 : k = 87
  · subst h87; rfl
  by_cases h88 : k = 88
  · subst h88; rfl
  by_cases h89 : k = 89
  · subst h89; rfl
  simp [va_up, mn_, h77, h78, h79, h80, h81, h82, h83, h84, h85, h86, h87, h88, h89]
theorem mq_u81 {v : Nat → Int32} : va_up (rq_ tc sz (mn_ tc w zm sd se mk aa ss bq ee zw wr sm xx yy) co n0 f g h r u) 81 (.inl (tc 0, 256, .inl v)) = rq_ tc sz (mn_ tc w zm sd se mk v ss bq ee zw wr sm xx yy) co n0 f g h r u := by
  rw [rq_up (by decide), mn_u81]
theorem mn_u82 {v : Nat → Int32} : va_up (mn_ tc w zm sd se mk aa ss bq ee zw wr sm xx yy) 82 (.inl (tc 0, 128, .inl v)) = mn_ tc w zm sd se mk aa v bq ee zw wr sm xx yy := by
  funext k
  by_cases h77 : k = 77
  · subst h77; rfl
  by_cases h78 : k = 78
  · subst h78; rfl
  by_cases h79 : k = 79
  · subst h79; rfl
  by_cases h80 : k = 80
  · subst h80; rfl
  by_cases h81 : k = 81
  · subst h81; rfl
  by_cases h82 : k = 82
  · subst h82; rfl
  by_cases h83 : k = 83
  · subst h83; rfl
  by_cases h84 : k = 84
  · subst h84; rfl
  by_cases h85 : k = 85
  · subst h85; rfl
  by_cases h86 : k = 86
  · subst h86; rfl
  by_cases h87 : k = 87
  · subst h87; rfl
  by_cases h88 : k = 88
  · subst h88; rfl
  by_cases h89 : k = 89
  · subst h89; rfl
  simp [va_up, mn_, h77, h78, h79, h80, h81, h82, h83, h84, h85, h86, h87, h88, h89]
theorem mq_u82 {v : Nat → Int32} : va_up (rq_ tc sz (mn_ tc w zm sd se mk aa ss bq ee zw wr sm xx yy) co n0 f g h r u) 82 (.inl (tc 0, 128, .inl v)) = rq_ tc sz (mn_ tc w zm sd se mk aa v bq ee zw wr sm xx yy) co n0 f g h r u := by
  rw [rq_up (by decide), mn_u82]
theorem mn_u83 {v : Nat → Int32} : va_up (mn_ tc w zm sd se mk aa ss bq ee zw wr sm xx yy) 83 (.inl (tc 0, 128, .inl v)) = mn_ tc w zm sd se mk aa ss v ee zw wr sm xx yy := by
  funext k
  by_cases h77 : k = 77
  · subst h77; rfl
  by_cases h78 : k = 78
  · subst h78; rfl
  by_cases h79 : k = 79
  · subst h79; rfl
  by_cases h80 : k = 80
  · subst h80; rfl
  by_cases h81 : k = 81
  · subst h81; rfl
  by_cases h82 : k = 82
  · subst h82; rfl
  by_cases h83 : k = 83
  · subst h83; rfl
  by_cases h84 : k = 84
  · subst h84; rfl
  by_cases h85 : k = 85
  · subst h85; rfl
  by_cases h86 : k = 86
  · subst h86; rfl
  by_cases h87 : k = 87
  · subst h87; rfl
  by_cases h88 : k = 88
  · subst h88; rfl
  by_cases h89 : k = 89
  · subst h89; rfl
  simp [va_up, mn_, h77, h78, h79, h80, h81, h82, h83, h84, h85, h86, h87, h88, h89]
theorem mq_u83 {v : Nat → Int32} : va_up (rq_ tc sz (mn_ tc w zm sd se mk aa ss bq ee zw wr sm xx yy) co n0 f g h r u) 83 (.inl (tc 0, 128, .inl v)) = rq_ tc sz (mn_ tc w zm sd se mk aa ss v ee zw wr sm xx yy) co n0 f g h r u := by
  rw [rq_up (by decide), mn_u83]
theorem mn_u84 {v : Nat → Int32} : va_up (mn_ tc w zm sd se mk aa ss bq ee zw wr sm xx yy) 84 (.inl (tc 0, 128, .inl v)) = mn_ tc w zm sd se mk aa ss bq v zw wr sm xx yy := by
  funext k
  by_cases h77 : k = 77
  · subst h77; rfl
  by_cases h78 : k = 78
  · subst h78; rfl
  by_cases h79 : k = 79
  · subst h79; rfl
  by_cases h80 : k = 80
  · subst h80; rfl
  by_cases h81 : k = 81
  · subst h81; rfl
  by_cases h82 : k = 82
  · subst h82; rfl
  by_cases h83 : k = 83
  · subst h83; rfl
  by_cases h84 : k = 84
  · subst h84; rfl
  by_cases h85 : k = 85
  · subst h85; rfl
  by_cases h86 : k = 86
  · subst h86; rfl
  by_cases h87 : k = 87
  · subst h87; rfl
  by_cases h88 : k = 88
  · subst h88; rfl
  by_cases h89 : k = 89
  · subst h89; rfl
  simp [va_up, mn_, h77, h78, h79, h80, h81, h82, h83, h84, h85, h86, h87, h88, h89]
theorem mq_u84 {v : Nat → Int32} : va_up (rq_ tc sz (mn_ tc w zm sd se mk aa ss bq ee zw wr sm xx yy) co n0 f g h r u) 84 (.inl (tc 0, 128, .inl v)) = rq_ tc sz (mn_ tc w zm sd se mk aa ss bq v zw wr sm xx yy) co n0 f g h r u := by
  rw [rq_up (by decide), mn_u84]
theorem mn_u85 {v : Nat → Int32} : va_up (mn_ tc w zm sd se mk aa ss bq ee zw wr sm xx yy) 85 (.inl (tc 2, 4, .inl v)) = mn_ tc w zm sd se mk aa ss bq ee v wr sm xx yy := by
  funext k
  by_cases h77 : k = 77
  · subst h77; rfl
  by_cases h78 : k = 78
  · subst h78; rfl
  by_cases h79 : k = 79
  · subst h79; rfl
  by_cases h80 : k = 80
  · subst h80; rfl
  by_cases h81 : k = 81
  · subst h81; rfl
  by_cases h82 : k = 82
  · subst h82; rfl
  by_cases h83 : k = 83
  · subst h83; rfl
  by_cases h84 : k = 84
  · subst h84; rfl
  by_cases h85 : k = 85
  · subst h85; rfl
  by_cases h86 : k = 86
  · subst h86; rfl
  by_cases h87 : k = 87
  · subst h87; rfl
  by_cases h88 : k = 88
  · subst h88; rfl
  by_cases h89 : k = 89
  · subst h89; rfl
  simp [va_up, mn_, h77, h78, h79, h80, h81, h82, h83, h84, h85, h86, h87, h88, h89]
theorem mq_u85 {v : Nat → Int32} : va_up (rq_ tc sz (mn_ tc w zm sd se mk aa ss bq ee zw wr sm xx yy) co n0 f g h r u) 85 (.inl (tc 2, 4, .inl v)) = rq_ tc sz (mn_ tc w zm sd se mk aa ss bq ee v wr sm xx yy) co n0 f g h r u := by
  rw [rq_up (by decide), mn_u85]
theorem mn_u86 {v : Nat → Int32} : va_up (mn_ tc w zm sd se mk aa ss bq ee zw wr sm xx yy) 86 (.inl (tc 0, 450, .inl v)) = mn_ tc w zm sd se mk aa ss bq ee zw v sm xx yy := by
  funext k
  by_cases h77 : k = 77
  · subst h77; rfl
  by_cases h78 : k = 78
  · subst h78; rfl
  by_cases h79 : k = 79
  · subst h79; rfl
  by_cases h80 : k = 80
  · subst h80; rfl
  by_cases h81 : k = 81
  · subst h81; rfl
  by_cases h82 : k = 82
  · subst h82; rfl
  by_cases h83 : k = 83
  · subst h83; rfl
  by_cases h84 : k = 84
  · subst h84; rfl
  by_cases h85 : k = 85
  · subst h85; rfl
  by_cases h86 : k = 86
  · subst h86; rfl
  by_cases h87 : k = 87
  · subst h87; rfl
  by_cases h88 : k = 88
  · subst h88; rfl
  by_cases h89 : k = 89
  · subst h89; rfl
  simp [va_up, mn_, h77, h78, h79, h80, h81, h82, h83, h84, h85, h86, h87, h88, h89]
theorem mq_u86 {v : Nat → Int32} : va_up (rq_ tc sz (mn_ tc w zm sd se mk aa ss bq ee zw wr sm xx yy) co n0 f g h r u) 86 (.inl (tc 0, 450, .inl v)) = rq_ tc sz (mn_ tc w zm sd se mk aa ss bq ee zw v sm xx yy) co n0 f g h r u := by
  rw [rq_up (by decide), mn_u86]
theorem mn_u87 {v : Nat → Int32} : va_up (mn_ tc w zm sd se mk aa ss bq ee zw wr sm xx yy) 87 (.inl (tc 0, 80, .inl v)) = mn_ tc w zm sd se mk aa ss bq ee zw wr v xx yy := by
  funext k
  by_cases h77 : k = 77
  · subst h77; rfl
  by_cases h78 : k = 78
  · subst h78; rfl
  by_cases h79 : k = 79
  · subst h79; rfl
  by_cases h80 : k = 80
  · subst h80; rfl
  by_cases h81 : k = 81
  · subst h81; rfl
  by_cases h82 : k = 82
  · subst h82; rfl
  by_cases h83 : k = 83
  · subst h83; rfl
  by_cases h84 : k = 84
  · subst h84; rfl
  by_cases h85 : k = 85
  · subst h85; rfl
  by_cases h86 : k = 86
  · subst h86; rfl
  by_cases h87 : k = 87
  · subst h87; rfl
  by_cases h88 : k = 88
  · subst h88; rfl
  by_cases h89 : k = 89
  · subst h89; rfl
  simp [va_up, mn_, h77, h78, h79, h80, h81, h82, h83, h84, h85, h86, h87, h88, h89]
theorem mq_u87 {v : Nat → Int32} : va_up (rq_ tc sz (mn_ tc w zm sd se mk aa ss bq ee zw wr sm xx yy) co n0 f g h r u) 87 (.inl (tc 0, 80, .inl v)) = rq_ tc sz (mn_ tc w zm sd se mk aa ss bq ee zw wr v xx yy) co n0 f g h r u := by
  rw [rq_up (by decide), mn_u87]
theorem mn_u88 {v : Nat → Int32} : va_up (mn_ tc w zm sd se mk aa ss bq ee zw wr sm xx yy) 88 (.inl (tc 0, 32, .inl v)) = mn_ tc w zm sd se mk aa ss bq ee zw wr sm v yy := by
  funext k
  by_cases h77 : k = 77
  · subst h77; rfl
  by_cases h78 : k = 78
  · subst h78; rfl
  by_cases h79 : k = 79
  · subst h79; rfl
  by_cases h80 : k = 80
  · subst h80; rfl
  by_cases h81 : k = 81
  · subst h81; rfl
  by_cases h82 : k = 82
  · subst h82; rfl
  by_cases h83 : k = 83
  · subst h83; rfl
  by_cases h84 : k = 84
  · subst h84; rfl
  by_cases h85 : k = 85
  · subst h85; rfl
  by_cases h86 : k = 86
  · subst h86; rfl
  by_cases h87 : k = 87
  · subst h87; rfl
  by_cases h88 : k = 88
  · subst h88; rfl
  by_cases h89 : k = 89
  · subst h89; rfl
  simp [va_up, mn_, h77, h78, h79, h80, h81, h82, h83, h84, h85, h86, h87, h88, h89]
theorem mq_u88 {v : Nat → Int32} : va_up (rq_ tc sz (mn_ tc w zm sd se mk aa ss bq ee zw wr sm xx yy) co n0 f g h r u) 88 (.inl (tc 0, 32, .inl v)) = rq_ tc sz (mn_ tc w zm sd se mk aa ss bq ee zw wr sm v yy) co n0 f g h r u := by
  rw [rq_up (by decide), mn_u88]
theorem mn_u89 {v : Nat → Int32} : va_up (mn_ tc w zm sd se mk aa ss bq ee zw wr sm xx yy) 89 (.inl (tc 0, 16, .inl v)) = mn_ tc w zm sd se mk aa ss bq ee zw wr sm xx v := by
  funext k
  by_cases h77 : k = 77
  · subst h77; rfl
  by_cases h78 : k = 78
  · subst h78; rfl
  by_cases h79 : k = 79
  · subst h79; rfl
  by_cases h80 : k = 80
  · subst h80; rfl
  by_cases h81 : k = 81
  · subst h81; rfl
  by_cases h82 : k = 82
  · subst h82; rfl
  by_cases h83 : k = 83
  · subst h83; rfl
  by_cases h84 : k = 84
  · subst h84; rfl
  by_cases h85 : k = 85
  · subst h85; rfl
  by_cases h86 : k = 86
  · subst h86; rfl
  by_cases h87 : k = 87
  · subst h87; rfl
  by_cases h88 : k = 88
  · subst h88; rfl
  by_cases h89 : k = 89
  · subst h89; rfl
  simp [va_up, mn_, h77, h78, h79, h80, h81, h82, h83, h84, h85, h86, h87, h88, h89]
theorem mq_u89 {v : Nat → Int32} : va_up (rq_ tc sz (mn_ tc w zm sd se mk aa ss bq ee zw wr sm xx yy) co n0 f g h r u) 89 (.inl (tc 0, 16, .inl v)) = rq_ tc sz (mn_ tc w zm sd se mk aa ss bq ee zw wr sm xx v) co n0 f g h r u := by
  rw [rq_up (by decide), mn_u89]
theorem tu_mn (h : tu_ tc w) : tu_ tc (mn_ tc w zm sd se mk aa ss bq ee zw wr sm xx yy) := h
theorem fu_mn (h : fu_ tc w) : fu_ tc (mn_ tc w zm sd se mk aa ss bq ee zw wr sm xx yy) := h
theorem mn_o (h : k < 77 ∨ 89 < k) : mn_ tc w zm sd se mk aa ss bq ee zw wr sm xx yy k = w k := by
  have h1 : k ≠ 77 ∧ k ≠ 78 ∧ k ≠ 79 ∧ k ≠ 80 ∧ k ≠ 81 ∧ k ≠ 82 ∧ k ≠ 83 ∧ k ≠ 84 ∧ k ≠ 85 ∧ k ≠ 86 ∧ k ≠ 87 ∧ k ≠ 88 ∧ k ≠ 89 := by omega
  simp [mn_, h1]
def fo_ (σ : Nat → Bool) (b : Nat) : Nat → Nat
  | 0 => 0
  | m + 1 => 2 * fo_ σ b m + (if σ (b + m) then 1 else 0)
theorem fo_lt {σ : Nat → Bool} (m : Nat) : fo_ σ b m < 2 ^ m := by
  induction m with
  | zero => exact Nat.one_pos
  | succ m ih =>
    show 2 * fo_ σ b m + (if σ (b + m) then 1 else 0) < 2 ^ m * 2
    split <;> omega
theorem fo_t {σ : Nat → Bool} (m : Nat) : ∀ i, (fo_ σ b m).testBit i = (decide (i < m) && σ (b + (m - 1 - i))) := by
  induction m with
  | zero =>
    intro i
    show (0 : Nat).testBit i = _
    simp
  | succ m ih =>
    intro i
    show (2 * fo_ σ b m + (if σ (b + m) then 1 else 0)).testBit i = _
    cases i with
    | zero =>
      rw [Nat.testBit_zero]
      cases h : σ (b + m)
      · simp [h]
      · simp [h, Nat.add_mod]
    | succ i =>
      rw [Nat.testBit_succ, show (2 * fo_ σ b m + (if σ (b + m) then 1 else 0)) / 2 = fo_ σ b m by split <;> omega, ih i, show m - 1 - i = m + 1 - 1 - (i + 1) by omega]
      simp
theorem ib_nI {n i : Nat} (hi : i < 32) : ib_ (nI n) i = n.testBit i := by
  show (BitVec.ofNat 32 n).getLsbD i = _
  rw [BitVec.getLsbD_ofNat]
  simp [hi]
def sg_ (e0 : Nat → Int32) (q : Nat) : Bool := ib_ (e0 (q / 15)) (14 - q % 15)
def sy8_ (e0 : Nat → Int32) (q : Nat) : Bool := ib_ (e0 (q / 8)) (7 - q % 8)
theorem nI_sub {a b : Nat} (h : b ≤ a) : nI a - nI b = nI (a - b) := by
  have h1 : nI a = nI (a - b) + nI b := by rw [nI_add, Nat.sub_add_cancel h]
  rw [h1, Int32.sub_eq_add_neg, Int32.add_assoc, Int32.add_right_neg, Int32.add_zero]
theorem bit1 {x : Int32} {n : Nat} (hn : n < 32) : jv_shr x (nI n) &&& nI 1 = nI (if ib_ x n then 1 else 0) := by
  refine ib_ext (fun i hi => ?_)
  rw [ib_and, ib_shr hn _ hi]
  have h1 : ib_ (nI 1) i = decide (i = 0) := (by decide +kernel : ∀ i, i < 32 → ib_ (nI 1) i = decide (i = 0)) i hi
  have h0 : ib_ (nI 0) i = false := ib_0 i
  rw [h1]
  by_cases e : i = 0
  · subst e
    cases h : ib_ x n
    · simp [h, h0, hn]
    · simp [h, h1, hn]
  · cases h : ib_ x n
    · simp [e, h0]
    · simp [e, h1]
set_option maxHeartbeats 4000000 in
theorem lp_R_packedByte (hb : b < 91) (hw : w b = .inl (tc 0, N, .inl e0)) (hN : N < 1000) (hk0 : a + (8 * k + 7) / 15 < N) (X : cx_ p s m args c c_R_packedByte 5 R_R D tc sz tk) (he : pm_G p l e (rm_ 0) s m args below meth c Q D cl_ sz 5 hz 91 0 0 (w) 51 [(4, .int (nI (8 * k + 8))), (3, .int (nI (fo_ (sg_ (fun t => e0 (a + t))) (8 * k) 8))), (0, .ref (sz + b)), (1, .int (nI a)), (2, .int (nI k))] []) : ∀ i j : Nat, j + i = 8 → pm_G p l e (rm_ 0) s m args below meth c Q D cl_ sz 5 hz 91 0 0 (w) 8 [(4, .int (nI (8 * k + j))), (3, .int (nI (fo_ (sg_ (fun t => e0 (a + t))) (8 * k) j))), (0, .ref (sz + b)), (1, .int (nI a)), (2, .int (nI k))] [] := by
  have p0 : pm_at sz 91 w (sz + b) = some (.inl (tc 0, N, .inl e0)) := by rw [pm_at_add hb, hw]
  intro i
  induction i with
  | zero =>
    intro j hj
    obtain rfl : j = 8 := by omega
    have h1 : (nI (8 * k + 8) ≤ nI (8 * k + 8)) = True := eq_true (nI_le (Nat.le_refl _) (by omega))
    refine pm_v_ok (cx_X X X_R) 7 _ _ _ _ (by simp -implicitDefEqProofs only [pv_0, pv_s, pd_iconst, pd_bipush, pd_sipush, pd_lconst_0, pd_lconst_1, pd_ldc, pd_ldc2, pd_iload_0, pd_iload_1, pd_iload_2, pd_iload_3, pd_iload, pd_lload_0, pd_lload_1, pd_lload_2, pd_lload_3, pd_lload, pd_aload_0, pd_aload_1, pd_aload_2, pd_aload_3, pd_aload, pd_istore_0, pd_istore_1, pd_istore_2, pd_istore_3, pd_istore, pd_lstore_0, pd_lstore_1, pd_lstore_2, pd_lstore_3, pd_lstore, pd_astore_0, pd_astore_1, pd_astore_2, pd_astore_3, pd_astore, pd_iinc, pd_iadd, pd_isub, pd_imul, pd_iand, pd_ior, pd_ixor, pd_ishl, pd_ishr, pd_iushr, pd_idiv, pd_irem, pd_ineg, pd_ladd, pd_lsub, pd_lmul, pd_land, pd_lor, pd_lxor, pd_lshl, pd_lushr, pd_lcmp, pd_i2l, pd_l2i, pd_dup_int, pd_pop_int, pd_dup_ref, pd_pop_ref, pd_dup_x1_ir, pd_dup_x1_ii, pd_dup2_ir, pd_dup2_ii, pd_goto, pd_if_eq, pd_if_ne, pd_if_lt, pd_if_ge, pd_if_gt, pd_if_le, pd_icmp_eq, pd_icmp_ne, pd_icmp_lt, pd_icmp_ge, pd_icmp_gt, pd_icmp_le, pd_iaload, pd_baload, pd_laload, pd_aaload, pd_iastore, pd_bastore, pd_lastore, pd_alen, pd_getfield, pd_putfield, ph_las, ph_len0, ph_len1, ph_len2, ph_gf, ph_pfi, ph_pfl, ph_pfz0, ph_pfz1, ph_nz0, ph_nz1, pm_cm1, pm_c0, pm_c1, pm_c2, pm_c3, pm_c4, pm_c5, pm_b6, pm_b7, pm_b8, pm_b9, pm_b10, pm_b11, pm_b12, pm_b14, pm_b15, pm_b16, pm_b20, pm_b24, pm_b25, pm_b28, pm_b31, pm_b32, pm_b48, pm_b56, pm_b60, pm_b63, pm_b64, pm_b67, pm_b68, pm_b89, pm_b90, pm_b95, pm_b100, pm_b120, pm_b127, pm_h128, pm_h150, pm_h168, pm_h255, pm_h256, pm_h360, pm_h369, pm_h450, pm_h4096, pm_h8192, pm_h32767, pm_h4643, pm_h13363, pm_h20579, pm_h25843, pm_h29227, pm_h31145, pm_h32103, pm_h32525, pm_h32689, pm_h32745, pm_h32762, pm_h32766, pm_o, pm_ldi, pm_ldl, pm_lda, pm_sti, pm_stl, pm_sta, pm_lk, pm_f1, pm_f2, Value.category, lv_args, Option.bind_some, Option.map_some, if_true, if_false, ite_true, ite_false, Nat.reduceAdd, Nat.reduceSub, Nat.reduceMul, Nat.reduceDiv, Nat.reduceMod, Nat.reduceLT, Nat.reduceLeDiff, Nat.reduceEqDiff, reduceIte, reduceCtorEq, Int.reduceNatCast, Int.reduceNatCast', Int.reduceAdd, Int.reduceLE, Int.reduceLT, Int.reduceToNat, Int.reduceNeg, Int.reduceSub, Nat.add_sub_cancel_left, va_up_g, Int.ofNat_eq_natCast, List.getElem?_cons_zero, List.getElem?_cons_succ, List.set_cons_zero, List.set_cons_succ, List.length_cons, List.length_nil, Nat.zero_add, va_rf, nI_add, pk_mul, Int.toNat_natCast, pm_ix_nI, Option.toList_none, Option.toList_some, List.nil_append, List.cons_append, pq_ial, pq_lal, pq_aal0, pq_aal1, pq_ias, F_R, K_R, d_R_packedByte_8, d_R_packedByte_10, d_R_packedByte_12, d_R_packedByte_13, d_R_packedByte_14, d_R_packedByte_16, d_R_packedByte_17, h1]; exact rfl) ?_
    exact he
  | succ i ih =>
    intro j hj
    have h1 : (nI (8 * k + 8) ≤ nI (8 * k + j)) = False := eq_false (nI_ge (by omega) (by omega))
    have e1 : nI (8 * k + j) / nI 15 = nI ((8 * k + j) / 15) := pk_div (by omega) (by decide) (by decide)
    have e2 : jv_rem (nI (8 * k + j)) (nI 15) = nI ((8 * k + j) % 15) := jr_ (by omega) (by decide) (by decide)
    have e3 : pm_ix (nI (a + (8 * k + j) / 15)) N = some (a + (8 * k + j) / 15) := pm_ix_nI (by omega) (by omega)
    have e4 : nI (2 * fo_ (sg_ (fun t => e0 (a + t))) (8 * k) j) + (jv_shr (e0 (a + (8 * k + j) / 15)) (nI 14 - nI ((8 * k + j) % 15)) &&& nI 1) = nI (fo_ (sg_ (fun t => e0 (a + t))) (8 * k) (j + 1)) := by
      rw [nI_sub (by omega), bit1 (by omega), nI_add]
      rfl
    refine pm_v_ok (cx_X X X_R) 29 _ _ _ _ (by simp -implicitDefEqProofs only [pv_0, pv_s, pd_iconst, pd_bipush, pd_sipush, pd_lconst_0, pd_lconst_1, pd_ldc, pd_ldc2, pd_iload_0, pd_iload_1, pd_iload_2, pd_iload_3, pd_iload, pd_lload_0, pd_lload_1, pd_lload_2, pd_lload_3, pd_lload, pd_aload_0, pd_aload_1, pd_aload_2, pd_aload_3, pd_aload, pd_istore_0, pd_istore_1, pd_istore_2, pd_istore_3, pd_istore, pd_lstore_0, pd_lstore_1, pd_lstore_2, pd_lstore_3, pd_lstore, pd_astore_0, pd_astore_1, pd_astore_2, pd_astore_3, pd_astore, pd_iinc, pd_iadd, pd_isub, pd_imul, pd_iand, pd_ior, pd_ixor, pd_ishl, pd_ishr, pd_iushr, pd_idiv, pd_irem, pd_ineg, pd_ladd, pd_lsub, pd_lmul, pd_land, pd_lor, pd_lxor, pd_lshl, pd_lushr, pd_lcmp, pd_i2l, pd_l2i, pd_dup_int, pd_pop_int, pd_dup_ref, pd_pop_ref, pd_dup_x1_ir, pd_dup_x1_ii, pd_dup2_ir, pd_dup2_ii, pd_goto, pd_if_eq, pd_if_ne, pd_if_lt, pd_if_ge, pd_if_gt, pd_if_le, pd_icmp_eq, pd_icmp_ne, pd_icmp_lt, pd_icmp_ge, pd_icmp_gt, pd_icmp_le, pd_iaload, pd_baload, pd_laload, pd_aaload, pd_iastore, pd_bastore, pd_lastore, pd_alen, pd_getfield, pd_putfield, ph_las, ph_len0, ph_len1, ph_len2, ph_gf, ph_pfi, ph_pfl, ph_pfz0, ph_pfz1, ph_nz0, ph_nz1, pm_cm1, pm_c0, pm_c1, pm_c2, pm_c3, pm_c4, pm_c5, pm_b6, pm_b7, pm_b8, pm_b9, pm_b10, pm_b11, pm_b12, pm_b14, pm_b15, pm_b16, pm_b20, pm_b24, pm_b25, pm_b28, pm_b31, pm_b32, pm_b48, pm_b56, pm_b60, pm_b63, pm_b64, pm_b67, pm_b68, pm_b89, pm_b90, pm_b95, pm_b100, pm_b120, pm_b127, pm_h128, pm_h150, pm_h168, pm_h255, pm_h256, pm_h360, pm_h369, pm_h450, pm_h4096, pm_h8192, pm_h32767, pm_h4643, pm_h13363, pm_h20579, pm_h25843, pm_h29227, pm_h31145, pm_h32103, pm_h32525, pm_h32689, pm_h32745, pm_h32762, pm_h32766, pm_o, pm_ldi, pm_ldl, pm_lda, pm_sti, pm_stl, pm_sta, pm_lk, pm_f1, pm_f2, Value.category, lv_args, Option.bind_some, Option.map_some, if_true, if_false, ite_true, ite_false, Nat.reduceAdd, Nat.reduceSub, Nat.reduceMul, Nat.reduceDiv, Nat.reduceMod, Nat.reduceLT, Nat.reduceLeDiff, Nat.reduceEqDiff, reduceIte, reduceCtorEq, Int.reduceNatCast, Int.reduceNatCast', Int.reduceAdd, Int.reduceLE, Int.reduceLT, Int.reduceToNat, Int.reduceNeg, Int.reduceSub, Nat.add_sub_cancel_left, va_up_g, Int.ofNat_eq_natCast, List.getElem?_cons_zero, List.getElem?_cons_succ, List.set_cons_zero, List.set_cons_succ, List.length_cons, List.length_nil, Nat.zero_add, va_rf, nI_add, pk_mul, Int.toNat_natCast, pm_ix_nI, Option.toList_none, Option.toList_some, List.nil_append, List.cons_append, pq_ial, pq_lal, pq_aal0, pq_aal1, pq_ias, F_R, K_R, d_R_packedByte_8, d_R_packedByte_10, d_R_packedByte_12, d_R_packedByte_13, d_R_packedByte_14, d_R_packedByte_16, d_R_packedByte_17, d_R_packedByte_20, d_R_packedByte_21, d_R_packedByte_22, d_R_packedByte_23, d_R_packedByte_24, d_R_packedByte_25, d_R_packedByte_27, d_R_packedByte_29, d_R_packedByte_30, d_R_packedByte_31, d_R_packedByte_32, d_R_packedByte_34, d_R_packedByte_36, d_R_packedByte_38, d_R_packedByte_39, d_R_packedByte_40, d_R_packedByte_41, d_R_packedByte_42, d_R_packedByte_43, d_R_packedByte_44, d_R_packedByte_45, d_R_packedByte_48, h1, p0, e1, e2, e3, e4, nz_15]; exact rfl) ?_
    exact pm_G.sub (by simp [Nat.add_assoc]) (ih (j + 1) (by omega))
set_option maxHeartbeats 4000000 in
theorem m_R_packedByte (hb : b < 91) (hw : w b = .inl (tc 0, N, .inl e0)) (hN : N < 1000) (hk0 : a + (8 * k + 7) / 15 < N) : mm_ l y_R_packedByte c_R_packedByte 5 (some .int) (rm_ 0) D tc sz tk [.ref (sz + b), .int (nI a), .int (nI k)] hz 91 (w) hz 91 (fun v w1 => v = some (.int (nI (fo_ (sg_ (fun t => e0 (a + t))) (8 * k) 8))) ∧ w1 = w) := by
  refine mm_of (by decide) (Nat.le_of_ble_eq_true rfl) ?_
  intro p e s m args below meth c X hr hk hnm
  refine pm_v_ok (cx_X X X_R) 6 _ _ _ _ (by simp -implicitDefEqProofs only [pv_0, pv_s, pd_iconst, pd_bipush, pd_sipush, pd_lconst_0, pd_lconst_1, pd_ldc, pd_ldc2, pd_iload_0, pd_iload_1, pd_iload_2, pd_iload_3, pd_iload, pd_lload_0, pd_lload_1, pd_lload_2, pd_lload_3, pd_lload, pd_aload_0, pd_aload_1, pd_aload_2, pd_aload_3, pd_aload, pd_istore_0, pd_istore_1, pd_istore_2, pd_istore_3, pd_istore, pd_lstore_0, pd_lstore_1, pd_lstore_2, pd_lstore_3, pd_lstore, pd_astore_0, pd_astore_1, pd_astore_2, pd_astore_3, pd_astore, pd_iinc, pd_iadd, pd_isub, pd_imul, pd_iand, pd_ior, pd_ixor, pd_ishl, pd_ishr, pd_iushr, pd_idiv, pd_irem, pd_ineg, pd_ladd, pd_lsub, pd_lmul, pd_land, pd_lor, pd_lxor, pd_lshl, pd_lushr, pd_lcmp, pd_i2l, pd_l2i, pd_dup_int, pd_pop_int, pd_dup_ref, pd_pop_ref, pd_dup_x1_ir, pd_dup_x1_ii, pd_dup2_ir, pd_dup2_ii, pd_goto, pd_if_eq, pd_if_ne, pd_if_lt, pd_if_ge, pd_if_gt, pd_if_le, pd_icmp_eq, pd_icmp_ne, pd_icmp_lt, pd_icmp_ge, pd_icmp_gt, pd_icmp_le, pd_iaload, pd_baload, pd_laload, pd_aaload, pd_iastore, pd_bastore, pd_lastore, pd_alen, pd_getfield, pd_putfield, ph_las, ph_len0, ph_len1, ph_len2, ph_gf, ph_pfi, ph_pfl, ph_pfz0, ph_pfz1, ph_nz0, ph_nz1, pm_cm1, pm_c0, pm_c1, pm_c2, pm_c3, pm_c4, pm_c5, pm_b6, pm_b7, pm_b8, pm_b9, pm_b10, pm_b11, pm_b12, pm_b14, pm_b15, pm_b16, pm_b20, pm_b24, pm_b25, pm_b28, pm_b31, pm_b32, pm_b48, pm_b56, pm_b60, pm_b63, pm_b64, pm_b67, pm_b68, pm_b89, pm_b90, pm_b95, pm_b100, pm_b120, pm_b127, pm_h128, pm_h150, pm_h168, pm_h255, pm_h256, pm_h360, pm_h369, pm_h450, pm_h4096, pm_h8192, pm_h32767, pm_h4643, pm_h13363, pm_h20579, pm_h25843, pm_h29227, pm_h31145, pm_h32103, pm_h32525, pm_h32689, pm_h32745, pm_h32762, pm_h32766, pm_o, pm_ldi, pm_ldl, pm_lda, pm_sti, pm_stl, pm_sta, pm_lk, pm_f1, pm_f2, Value.category, lv_args, Option.bind_some, Option.map_some, if_true, if_false, ite_true, ite_false, Nat.reduceAdd, Nat.reduceSub, Nat.reduceMul, Nat.reduceDiv, Nat.reduceMod, Nat.reduceLT, Nat.reduceLeDiff, Nat.reduceEqDiff, reduceIte, reduceCtorEq, Int.reduceNatCast, Int.reduceNatCast', Int.reduceAdd, Int.reduceLE, Int.reduceLT, Int.reduceToNat, Int.reduceNeg, Int.reduceSub, Nat.add_sub_cancel_left, va_up_g, Int.ofNat_eq_natCast, List.getElem?_cons_zero, List.getElem?_cons_succ, List.set_cons_zero, List.set_cons_succ, List.length_cons, List.length_nil, Nat.zero_add, va_rf, nI_add, pk_mul, Int.toNat_natCast, pm_ix_nI, Option.toList_none, Option.toList_some, List.nil_append, List.cons_append, pq_ial, pq_lal, pq_aal0, pq_aal1, pq_ias, F_R, K_R, d_R_packedByte_0, d_R_packedByte_1, d_R_packedByte_2, d_R_packedByte_4, d_R_packedByte_5, d_R_packedByte_6]; exact rfl) ?_
  refine pm_G.sub (by simp [fo_]) (lp_R_packedByte hb hw hN hk0 X ?_ 8 0 rfl)
  refine pm_v_ok (cx_X X X_R) 1 _ _ _ _ (by simp -implicitDefEqProofs only [pv_0, pv_s, pd_iconst, pd_bipush, pd_sipush, pd_lconst_0, pd_lconst_1, pd_ldc, pd_ldc2, pd_iload_0, pd_iload_1, pd_iload_2, pd_iload_3, pd_iload, pd_lload_0, pd_lload_1, pd_lload_2, pd_lload_3, pd_lload, pd_aload_0, pd_aload_1, pd_aload_2, pd_aload_3, pd_aload, pd_istore_0, pd_istore_1, pd_istore_2, pd_istore_3, pd_istore, pd_lstore_0, pd_lstore_1, pd_lstore_2, pd_lstore_3, pd_lstore, pd_astore_0, pd_astore_1, pd_astore_2, pd_astore_3, pd_astore, pd_iinc, pd_iadd, pd_isub, pd_imul, pd_iand, pd_ior, pd_ixor, pd_ishl, pd_ishr, pd_iushr, pd_idiv, pd_irem, pd_ineg, pd_ladd, pd_lsub, pd_lmul, pd_land, pd_lor, pd_lxor, pd_lshl, pd_lushr, pd_lcmp, pd_i2l, pd_l2i, pd_dup_int, pd_pop_int, pd_dup_ref, pd_pop_ref, pd_dup_x1_ir, pd_dup_x1_ii, pd_dup2_ir, pd_dup2_ii, pd_goto, pd_if_eq, pd_if_ne, pd_if_lt, pd_if_ge, pd_if_gt, pd_if_le, pd_icmp_eq, pd_icmp_ne, pd_icmp_lt, pd_icmp_ge, pd_icmp_gt, pd_icmp_le, pd_iaload, pd_baload, pd_laload, pd_aaload, pd_iastore, pd_bastore, pd_lastore, pd_alen, pd_getfield, pd_putfield, ph_las, ph_len0, ph_len1, ph_len2, ph_gf, ph_pfi, ph_pfl, ph_pfz0, ph_pfz1, ph_nz0, ph_nz1, pm_cm1, pm_c0, pm_c1, pm_c2, pm_c3, pm_c4, pm_c5, pm_b6, pm_b7, pm_b8, pm_b9, pm_b10, pm_b11, pm_b12, pm_b14, pm_b15, pm_b16, pm_b20, pm_b24, pm_b25, pm_b28, pm_b31, pm_b32, pm_b48, pm_b56, pm_b60, pm_b63, pm_b64, pm_b67, pm_b68, pm_b89, pm_b90, pm_b95, pm_b100, pm_b120, pm_b127, pm_h128, pm_h150, pm_h168, pm_h255, pm_h256, pm_h360, pm_h369, pm_h450, pm_h4096, pm_h8192, pm_h32767, pm_h4643, pm_h13363, pm_h20579, pm_h25843, pm_h29227, pm_h31145, pm_h32103, pm_h32525, pm_h32689, pm_h32745, pm_h32762, pm_h32766, pm_o, pm_ldi, pm_ldl, pm_lda, pm_sti, pm_stl, pm_sta, pm_lk, pm_f1, pm_f2, Value.category, lv_args, Option.bind_some, Option.map_some, if_true, if_false, ite_true, ite_false, Nat.reduceAdd, Nat.reduceSub, Nat.reduceMul, Nat.reduceDiv, Nat.reduceMod, Nat.reduceLT, Nat.reduceLeDiff, Nat.reduceEqDiff, reduceIte, reduceCtorEq, Int.reduceNatCast, Int.reduceNatCast', Int.reduceAdd, Int.reduceLE, Int.reduceLT, Int.reduceToNat, Int.reduceNeg, Int.reduceSub, Nat.add_sub_cancel_left, va_up_g, Int.ofNat_eq_natCast, List.getElem?_cons_zero, List.getElem?_cons_succ, List.set_cons_zero, List.set_cons_succ, List.length_cons, List.length_nil, Nat.zero_add, va_rf, nI_add, pk_mul, Int.toNat_natCast, pm_ix_nI, Option.toList_none, Option.toList_some, List.nil_append, List.cons_append, pq_ial, pq_lal, pq_aal0, pq_aal1, pq_ias, F_R, K_R, d_R_packedByte_51]; exact rfl) ?_
  exact mr_i X hr hk d_R_packedByte_52 (Nat.le_refl _) (Nat.le_refl _) ⟨rfl, rfl⟩
set_option maxHeartbeats 4000000 in
theorem m_R_isPlace {n : Nat} : mm_ l y_R_isPlace c_R_isPlace 1 (some .boolean) (rm_ 0) D tc sz tk [.int y] hz n (w) hz n (fun v w1 => w1 = w ∧ ((pl_ y ∧ v = some (.int (nI 1))) ∨ (¬ pl_ y ∧ v = some (.int (nI 0))))) := by
  refine mm_of (by decide) (Nat.le_of_ble_eq_true rfl) ?_
  intro p e s m args below meth c X hr hk hnm
  have z0 : narrow .boolean (.int (nI 0)) = .int (nI 0) := by decide
  have z1 : narrow .boolean (.int (nI 1)) = .int (nI 1) := by decide
  by_cases h1 : y < 0
  · have e1 : (y < 0) = True := eq_true h1
    refine pm_v_ok (cx_X X X_R) 3 _ _ _ _ (by simp -implicitDefEqProofs only [pv_0, pv_s, pd_iconst, pd_bipush, pd_sipush, pd_lconst_0, pd_lconst_1, pd_ldc, pd_ldc2, pd_iload_0, pd_iload_1, pd_iload_2, pd_iload_3, pd_iload, pd_lload_0, pd_lload_1, pd_lload_2, pd_lload_3, pd_lload, pd_aload_0, pd_aload_1, pd_aload_2, pd_aload_3, pd_aload, pd_istore_0, pd_istore_1, pd_istore_2, pd_istore_3, pd_istore, pd_lstore_0, pd_lstore_1, pd_lstore_2, pd_lstore_3, pd_lstore, pd_astore_0, pd_astore_1, pd_astore_2, pd_astore_3, pd_astore, pd_iinc, pd_iadd, pd_isub, pd_imul, pd_iand, pd_ior, pd_ixor, pd_ishl, pd_ishr, pd_iushr, pd_idiv, pd_irem, pd_ineg, pd_ladd, pd_lsub, pd_lmul, pd_land, pd_lor, pd_lxor, pd_lshl, pd_lushr, pd_lcmp, pd_i2l, pd_l2i, pd_dup_int, pd_pop_int, pd_dup_ref, pd_pop_ref, pd_dup_x1_ir, pd_dup_x1_ii, pd_dup2_ir, pd_dup2_ii, pd_goto, pd_if_eq, pd_if_ne, pd_if_lt, pd_if_ge, pd_if_gt, pd_if_le, pd_icmp_eq, pd_icmp_ne, pd_icmp_lt, pd_icmp_ge, pd_icmp_gt, pd_icmp_le, pd_iaload, pd_baload, pd_laload, pd_aaload, pd_iastore, pd_bastore, pd_lastore, pd_alen, pd_getfield, pd_putfield, ph_las, ph_len0, ph_len1, ph_len2, ph_gf, ph_pfi, ph_pfl, ph_pfz0, ph_pfz1, ph_nz0, ph_nz1, pm_cm1, pm_c0, pm_c1, pm_c2, pm_c3, pm_c4, pm_c5, pm_b6, pm_b7, pm_b8, pm_b9, pm_b10, pm_b11, pm_b12, pm_b14, pm_b15, pm_b16, pm_b20, pm_b24, pm_b25, pm_b28, pm_b31, pm_b32, pm_b48, pm_b56, pm_b60, pm_b63, pm_b64, pm_b67, pm_b68, pm_b89, pm_b90, pm_b95, pm_b100, pm_b120, pm_b127, pm_h128, pm_h150, pm_h168, pm_h255, pm_h256, pm_h360, pm_h369, pm_h450, pm_h4096, pm_h8192, pm_h32767, pm_h4643, pm_h13363, pm_h20579, pm_h25843, pm_h29227, pm_h31145, pm_h32103, pm_h32525, pm_h32689, pm_h32745, pm_h32762, pm_h32766, pm_o, pm_ldi, pm_ldl, pm_lda, pm_sti, pm_stl, pm_sta, pm_lk, pm_f1, pm_f2, Value.category, lv_args, Option.bind_some, Option.map_some, if_true, if_false, ite_true, ite_false, Nat.reduceAdd, Nat.reduceSub, Nat.reduceMul, Nat.reduceDiv, Nat.reduceMod, Nat.reduceLT, Nat.reduceLeDiff, Nat.reduceEqDiff, reduceIte, reduceCtorEq, Int.reduceNatCast, Int.reduceNatCast', Int.reduceAdd, Int.reduceLE, Int.reduceLT, Int.reduceToNat, Int.reduceNeg, Int.reduceSub, pm_at_add, Nat.add_sub_cancel_left, va_up_g, Int.ofNat_eq_natCast, List.getElem?_cons_zero, List.getElem?_cons_succ, List.set_cons_zero, List.set_cons_succ, List.length_cons, List.length_nil, Nat.zero_add, va_rf, nI_add, pk_mul, Int.toNat_natCast, pm_ix_nI, Option.toList_none, Option.toList_some, List.nil_append, List.cons_append, pq_ial, pq_lal, pq_aal0, pq_aal1, pq_ias, F_R, K_R, d_R_isPlace_0, d_R_isPlace_1, d_R_isPlace_13, e1]; exact rfl) ?_
    exact mr_z X hr hk d_R_isPlace_14 z0 (Nat.le_refl _) (Nat.le_refl _) ⟨rfl, Or.inr ⟨fun h => h.1 h1, rfl⟩⟩
  have e1 : (y < 0) = False := eq_false h1
  by_cases h2 : nI 4 ≤ y
  · have e2 : (nI 4 ≤ y) = True := eq_true h2
    refine pm_v_ok (cx_X X X_R) 6 _ _ _ _ (by simp -implicitDefEqProofs only [pv_0, pv_s, pd_iconst, pd_bipush, pd_sipush, pd_lconst_0, pd_lconst_1, pd_ldc, pd_ldc2, pd_iload_0, pd_iload_1, pd_iload_2, pd_iload_3, pd_iload, pd_lload_0, pd_lload_1, pd_lload_2, pd_lload_3, pd_lload, pd_aload_0, pd_aload_1, pd_aload_2, pd_aload_3, pd_aload, pd_istore_0, pd_istore_1, pd_istore_2, pd_istore_3, pd_istore, pd_lstore_0, pd_lstore_1, pd_lstore_2, pd_lstore_3, pd_lstore, pd_astore_0, pd_astore_1, pd_astore_2, pd_astore_3, pd_astore, pd_iinc, pd_iadd, pd_isub, pd_imul, pd_iand, pd_ior, pd_ixor, pd_ishl, pd_ishr, pd_iushr, pd_idiv, pd_irem, pd_ineg, pd_ladd, pd_lsub, pd_lmul, pd_land, pd_lor, pd_lxor, pd_lshl, pd_lushr, pd_lcmp, pd_i2l, pd_l2i, pd_dup_int, pd_pop_int, pd_dup_ref, pd_pop_ref, pd_dup_x1_ir, pd_dup_x1_ii, pd_dup2_ir, pd_dup2_ii, pd_goto, pd_if_eq, pd_if_ne, pd_if_lt, pd_if_ge, pd_if_gt, pd_if_le, pd_icmp_eq, pd_icmp_ne, pd_icmp_lt, pd_icmp_ge, pd_icmp_gt, pd_icmp_le, pd_iaload, pd_baload, pd_laload, pd_aaload, pd_iastore, pd_bastore, pd_lastore, pd_alen, pd_getfield, pd_putfield, ph_las, ph_len0, ph_len1, ph_len2, ph_gf, ph_pfi, ph_pfl, ph_pfz0, ph_pfz1, ph_nz0, ph_nz1, pm_cm1, pm_c0, pm_c1, pm_c2, pm_c3, pm_c4, pm_c5, pm_b6, pm_b7, pm_b8, pm_b9, pm_b10, pm_b11, pm_b12, pm_b14, pm_b15, pm_b16, pm_b20, pm_b24, pm_b25, pm_b28, pm_b31, pm_b32, pm_b48, pm_b56, pm_b60, pm_b63, pm_b64, pm_b67, pm_b68, pm_b89, pm_b90, pm_b95, pm_b100, pm_b120, pm_b127, pm_h128, pm_h150, pm_h168, pm_h255, pm_h256, pm_h360, pm_h369, pm_h450, pm_h4096, pm_h8192, pm_h32767, pm_h4643, pm_h13363, pm_h20579, pm_h25843, pm_h29227, pm_h31145, pm_h32103, pm_h32525, pm_h32689, pm_h32745, pm_h32762, pm_h32766, pm_o, pm_ldi, pm_ldl, pm_lda, pm_sti, pm_stl, pm_sta, pm_lk, pm_f1, pm_f2, Value.category, lv_args, Option.bind_some, Option.map_some, if_true, if_false, ite_true, ite_false, Nat.reduceAdd, Nat.reduceSub, Nat.reduceMul, Nat.reduceDiv, Nat.reduceMod, Nat.reduceLT, Nat.reduceLeDiff, Nat.reduceEqDiff, reduceIte, reduceCtorEq, Int.reduceNatCast, Int.reduceNatCast', Int.reduceAdd, Int.reduceLE, Int.reduceLT, Int.reduceToNat, Int.reduceNeg, Int.reduceSub, pm_at_add, Nat.add_sub_cancel_left, va_up_g, Int.ofNat_eq_natCast, List.getElem?_cons_zero, List.getElem?_cons_succ, List.set_cons_zero, List.set_cons_succ, List.length_cons, List.length_nil, Nat.zero_add, va_rf, nI_add, pk_mul, Int.toNat_natCast, pm_ix_nI, Option.toList_none, Option.toList_some, List.nil_append, List.cons_append, pq_ial, pq_lal, pq_aal0, pq_aal1, pq_ias, F_R, K_R, d_R_isPlace_0, d_R_isPlace_1, d_R_isPlace_4, d_R_isPlace_5, d_R_isPlace_6, d_R_isPlace_13, e1, e2]; exact rfl) ?_
    exact mr_z X hr hk d_R_isPlace_14 z0 (Nat.le_refl _) (Nat.le_refl _) ⟨rfl, Or.inr ⟨fun h => Int32.not_lt.mpr h2 h.2, rfl⟩⟩
  have e2 : (nI 4 ≤ y) = False := eq_false h2
  refine pm_v_ok (cx_X X X_R) 7 _ _ _ _ (by simp -implicitDefEqProofs only [pv_0, pv_s, pd_iconst, pd_bipush, pd_sipush, pd_lconst_0, pd_lconst_1, pd_ldc, pd_ldc2, pd_iload_0, pd_iload_1, pd_iload_2, pd_iload_3, pd_iload, pd_lload_0, pd_lload_1, pd_lload_2, pd_lload_3, pd_lload, pd_aload_0, pd_aload_1, pd_aload_2, pd_aload_3, pd_aload, pd_istore_0, pd_istore_1, pd_istore_2, pd_istore_3, pd_istore, pd_lstore_0, pd_lstore_1, pd_lstore_2, pd_lstore_3, pd_lstore, pd_astore_0, pd_astore_1, pd_astore_2, pd_astore_3, pd_astore, pd_iinc, pd_iadd, pd_isub, pd_imul, pd_iand, pd_ior, pd_ixor, pd_ishl, pd_ishr, pd_iushr, pd_idiv, pd_irem, pd_ineg, pd_ladd, pd_lsub, pd_lmul, pd_land, pd_lor, pd_lxor, pd_lshl, pd_lushr, pd_lcmp, pd_i2l, pd_l2i, pd_dup_int, pd_pop_int, pd_dup_ref, pd_pop_ref, pd_dup_x1_ir, pd_dup_x1_ii, pd_dup2_ir, pd_dup2_ii, pd_goto, pd_if_eq, pd_if_ne, pd_if_lt, pd_if_ge, pd_if_gt, pd_if_le, pd_icmp_eq, pd_icmp_ne, pd_icmp_lt, pd_icmp_ge, pd_icmp_gt, pd_icmp_le, pd_iaload, pd_baload, pd_laload, pd_aaload, pd_iastore, pd_bastore, pd_lastore, pd_alen, pd_getfield, pd_putfield, ph_las, ph_len0, ph_len1, ph_len2, ph_gf, ph_pfi, ph_pfl, ph_pfz0, ph_pfz1, ph_nz0, ph_nz1, pm_cm1, pm_c0, pm_c1, pm_c2, pm_c3, pm_c4, pm_c5, pm_b6, pm_b7, pm_b8, pm_b9, pm_b10, pm_b11, pm_b12, pm_b14, pm_b15, pm_b16, pm_b20, pm_b24, pm_b25, pm_b28, pm_b31, pm_b32, pm_b48, pm_b56, pm_b60, pm_b63, pm_b64, pm_b67, pm_b68, pm_b89, pm_b90, pm_b95, pm_b100, pm_b120, pm_b127, pm_h128, pm_h150, pm_h168, pm_h255, pm_h256, pm_h360, pm_h369, pm_h450, pm_h4096, pm_h8192, pm_h32767, pm_h4643, pm_h13363, pm_h20579, pm_h25843, pm_h29227, pm_h31145, pm_h32103, pm_h32525, pm_h32689, pm_h32745, pm_h32762, pm_h32766, pm_o, pm_ldi, pm_ldl, pm_lda, pm_sti, pm_stl, pm_sta, pm_lk, pm_f1, pm_f2, Value.category, lv_args, Option.bind_some, Option.map_some, if_true, if_false, ite_true, ite_false, Nat.reduceAdd, Nat.reduceSub, Nat.reduceMul, Nat.reduceDiv, Nat.reduceMod, Nat.reduceLT, Nat.reduceLeDiff, Nat.reduceEqDiff, reduceIte, reduceCtorEq, Int.reduceNatCast, Int.reduceNatCast', Int.reduceAdd, Int.reduceLE, Int.reduceLT, Int.reduceToNat, Int.reduceNeg, Int.reduceSub, pm_at_add, Nat.add_sub_cancel_left, va_up_g, Int.ofNat_eq_natCast, List.getElem?_cons_zero, List.getElem?_cons_succ, List.set_cons_zero, List.set_cons_succ, List.length_cons, List.length_nil, Nat.zero_add, va_rf, nI_add, pk_mul, Int.toNat_natCast, pm_ix_nI, Option.toList_none, Option.toList_some, List.nil_append, List.cons_append, pq_ial, pq_lal, pq_aal0, pq_aal1, pq_ias, F_R, K_R, d_R_isPlace_0, d_R_isPlace_1, d_R_isPlace_4, d_R_isPlace_5, d_R_isPlace_6, d_R_isPlace_9, d_R_isPlace_10, e1, e2]; exact rfl) ?_
  exact mr_z X hr hk d_R_isPlace_14 z1 (Nat.le_refl _) (Nat.le_refl _) ⟨rfl, Or.inl ⟨⟨h1, Int32.not_le.mp h2⟩, rfl⟩⟩
end R4
