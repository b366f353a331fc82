theorem mT_all_33 : (mTH_33.all fun q => mchk q.1 q.2) = true := by
  have e0 : wat 3 126 = some (Cond.code (cY 89) (cB 89) (cN 89) (cR 89)) := rfl
  have e : inH [(1, 0), (3, 124), (3, 125), (3, 126)] 3 (Cond.code (cY 89) (cB 89) (cN 89) (cR 89)) = true := by
    unfold inH
    rw [Bool.and_eq_true]
    exact ⟨decide_eq_true e0, rfl⟩
  have a1 : inH [(1, 0), (3, 124), (3, 125), (3, 126)] 0 (Cond.initialized (cY 89).cls) = true := by decide +kernel
  have a2 : ((cY 89).cls != "java/lang/invoke/MethodHandle") = true := by decide +kernel
  have a3 : ((cY 89).cls != "java/lang/invoke/VarHandle") = true := by decide +kernel
  have a4 : decide ((parseMethodDescriptor (cY 89).desc).map (fun d => d.parameters.length) = some (cP 89)) = true := by decide +kernel
  have b1 : inH [(1, 0), (3, 124), (3, 125), (3, 126)] 1 (Cond.methodLink (cNm 7) 147 (cY 89)) = true := by decide +kernel
  have b2 : inH [(1, 0), (3, 124), (3, 125), (3, 126)] 2 (Cond.static (cY 89)) = true := by decide +kernel
  have b4 : ((cH 89).isEmpty) = true := rfl
  show ((inH [(1, 0), (3, 124), (3, 125), (3, 126)] 0 (Cond.initialized (cY 89).cls) && ((cY 89).cls != "java/lang/invoke/MethodHandle" && ((cY 89).cls != "java/lang/invoke/VarHandle" && (decide ((parseMethodDescriptor (cY 89).desc).map (fun d => d.parameters.length) = some (cP 89)) && (inH [(1, 0), (3, 124), (3, 125), (3, 126)] 1 (Cond.methodLink (cNm 7) 147 (cY 89)) && inH [(1, 0), (3, 124), (3, 125), (3, 126)] 2 (Cond.static (cY 89)) && inH [(1, 0), (3, 124), (3, 125), (3, 126)] 3 (Cond.code (cY 89) (cB 89) (cN 89) (cR 89)) && (cH 89).isEmpty))))) && true) = true
  rw [a1, a2, a3, a4, b1, b2, e, b4]
  rfl
theorem mT_all_34 : (mTH_34.all fun q => mchk q.1 q.2) = true := by
  have e0 : wat 3 129 = some (Cond.code (cY 82) (cB 82) (cN 82) (cR 82)) := rfl
  have e : inH [(1, 0), (3, 127), (3, 128), (3, 129)] 3 (Cond.code (cY 82) (cB 82) (cN 82) (cR 82)) = true := by
    unfold inH
    rw [Bool.and_eq_true]
    exact ⟨decide_eq_true e0, rfl⟩
  have a1 : inH [(1, 0), (3, 127), (3, 128), (3, 129)] 0 (Cond.initialized (cY 82).cls) = true := by decide +kernel
  have a2 : ((cY 82).cls != "java/lang/invoke/MethodHandle") = true := by decide +kernel
  have a3 : ((cY 82).cls != "java/lang/invoke/VarHandle") = true := by decide +kernel
  have a4 : decide ((parseMethodDescriptor (cY 82).desc).map (fun d => d.parameters.length) = some (cP 82)) = true := by decide +kernel
  have b1 : inH [(1, 0), (3, 127), (3, 128), (3, 129)] 1 (Cond.methodLink (cNm 7) 151 (cY 82)) = true := by decide +kernel
  have b2 : inH [(1, 0), (3, 127), (3, 128), (3, 129)] 2 (Cond.static (cY 82)) = true := by decide +kernel
  have b4 : ((cH 82).isEmpty) = true := rfl
  show ((inH [(1, 0), (3, 127), (3, 128), (3, 129)] 0 (Cond.initialized (cY 82).cls) && ((cY 82).cls != "java/lang/invoke/MethodHandle" && ((cY 82).cls != "java/lang/invoke/VarHandle" && (decide ((parseMethodDescriptor (cY 82).desc).map (fun d => d.parameters.length) = some (cP 82)) && (inH [(1, 0), (3, 127), (3, 128), (3, 129)] 1 (Cond.methodLink (cNm 7) 151 (cY 82)) && inH [(1, 0), (3, 127), (3, 128), (3, 129)] 2 (Cond.static (cY 82)) && inH [(1, 0), (3, 127), (3, 128), (3, 129)] 3 (Cond.code (cY 82) (cB 82) (cN 82) (cR 82)) && (cH 82).isEmpty))))) && true) = true
  rw [a1, a2, a3, a4, b1, b2, e, b4]
  rfl
theorem mT_all_35 : (mTH_35.all fun q => mchk q.1 q.2) = true := by
  have e0 : wat 3 150 = some (Cond.code (cY 91) (cB 91) (cN 91) (cR 91)) := rfl
  have e : inH [(1, 0), (3, 148), (3, 149), (3, 150)] 3 (Cond.code (cY 91) (cB 91) (cN 91) (cR 91)) = true := by
    unfold inH
    rw [Bool.and_eq_true]
    exact ⟨decide_eq_true e0, rfl⟩
  have a1 : inH [(1, 0), (3, 148), (3, 149), (3, 150)] 0 (Cond.initialized (cY 91).cls) = true := by decide +kernel
  have a2 : ((cY 91).cls != "java/lang/invoke/MethodHandle") = true := by decide +kernel
  have a3 : ((cY 91).cls != "java/lang/invoke/VarHandle") = true := by decide +kernel
  have a4 : decide ((parseMethodDescriptor (cY 91).desc).map (fun d => d.parameters.length) = some (cP 91)) = true := by decide +kernel
  have b1 : inH [(1, 0), (3, 148), (3, 149), (3, 150)] 1 (Cond.methodLink (cNm 7) 155 (cY 91)) = true := by decide +kernel
  have b2 : inH [(1, 0), (3, 148), (3, 149), (3, 150)] 2 (Cond.static (cY 91)) = true := by decide +kernel
  have b4 : ((cH 91).isEmpty) = true := rfl
  show ((inH [(1, 0), (3, 148), (3, 149), (3, 150)] 0 (Cond.initialized (cY 91).cls) && ((cY 91).cls != "java/lang/invoke/MethodHandle" && ((cY 91).cls != "java/lang/invoke/VarHandle" && (decide ((parseMethodDescriptor (cY 91).desc).map (fun d => d.parameters.length) = some (cP 91)) && (inH [(1, 0), (3, 148), (3, 149), (3, 150)] 1 (Cond.methodLink (cNm 7) 155 (cY 91)) && inH [(1, 0), (3, 148), (3, 149), (3, 150)] 2 (Cond.static (cY 91)) && inH [(1, 0), (3, 148), (3, 149), (3, 150)] 3 (Cond.code (cY 91) (cB 91) (cN 91) (cR 91)) && (cH 91).isEmpty))))) && true) = true
  rw [a1, a2, a3, a4, b1, b2, e, b4]
  rfl
theorem mT_all_36 : (mTH_36.all fun q => mchk q.1 q.2) = true := by
  have e0 : wat 3 153 = some (Cond.code (cY 92) (cB 92) (cN 92) (cR 92)) := rfl
  have e : inH [(1, 0), (3, 151), (3, 152), (3, 153)] 3 (Cond.code (cY 92) (cB 92) (cN 92) (cR 92)) = true := by
    unfold inH
    rw [Bool.and_eq_true]
    exact ⟨decide_eq_true e0, rfl⟩
  have a1 : inH [(1, 0), (3, 151), (3, 152), (3, 153)] 0 (Cond.initialized (cY 92).cls) = true := by decide +kernel
  have a2 : ((cY 92).cls != "java/lang/invoke/MethodHandle") = true := by decide +kernel
  have a3 : ((cY 92).cls != "java/lang/invoke/VarHandle") = true := by decide +kernel
  have a4 : decide ((parseMethodDescriptor (cY 92).desc).map (fun d => d.parameters.length) = some (cP 92)) = true := by decide +kernel
  have b1 : inH [(1, 0), (3, 151), (3, 152), (3, 153)] 1 (Cond.methodLink (cNm 7) 158 (cY 92)) = true := by decide +kernel
  have b2 : inH [(1, 0), (3, 151), (3, 152), (3, 153)] 2 (Cond.static (cY 92)) = true := by decide +kernel
  have b4 : ((cH 92).isEmpty) = true := rfl
  show ((inH [(1, 0), (3, 151), (3, 152), (3, 153)] 0 (Cond.initialized (cY 92).cls) && ((cY 92).cls != "java/lang/invoke/MethodHandle" && ((cY 92).cls != "java/lang/invoke/VarHandle" && (decide ((parseMethodDescriptor (cY 92).desc).map (fun d => d.parameters.length) = some (cP 92)) && (inH [(1, 0), (3, 151), (3, 152), (3, 153)] 1 (Cond.methodLink (cNm 7) 158 (cY 92)) && inH [(1, 0), (3, 151), (3, 152), (3, 153)] 2 (Cond.static (cY 92)) && inH [(1, 0), (3, 151), (3, 152), (3, 153)] 3 (Cond.code (cY 92) (cB 92) (cN 92) (cR 92)) && (cH 92).isEmpty))))) && true) = true
  rw [a1, a2, a3, a4, b1, b2, e, b4]
  rfl
theorem mT_all_37 : (mTH_37.all fun q => mchk q.1 q.2) = true := by decide +kernel
theorem mT_all_38 : (mTH_38.all fun q => mchk q.1 q.2) = true := by decide +kernel
theorem mT_all_39 : (mTH_39.all fun q => mchk q.1 q.2) = true := by
  have e0 : wat 1 219 = some (Cond.code (cY 72) (cB 72) (cN 72) (cR 72)) := rfl
  have e : inH [(1, 0), (1, 217), (1, 218), (1, 219)] 3 (Cond.code (cY 72) (cB 72) (cN 72) (cR 72)) = true := by
    unfold inH
    rw [Bool.and_eq_true]
    exact ⟨decide_eq_true e0, rfl⟩
  have a1 : inH [(1, 0), (1, 217), (1, 218), (1, 219)] 0 (Cond.initialized (cY 72).cls) = true := by decide +kernel
  have a2 : ((cY 72).cls != "java/lang/invoke/MethodHandle") = true := by decide +kernel
  have a3 : ((cY 72).cls != "java/lang/invoke/VarHandle") = true := by decide +kernel
  have a4 : decide ((parseMethodDescriptor (cY 72).desc).map (fun d => d.parameters.length) = some (cP 72)) = true := by decide +kernel
  have b1 : inH [(1, 0), (1, 217), (1, 218), (1, 219)] 1 (Cond.methodLink (cNm 7) 176 (cY 72)) = true := by decide +kernel
  have b2 : inH [(1, 0), (1, 217), (1, 218), (1, 219)] 2 (Cond.static (cY 72)) = true := by decide +kernel
  have b4 : ((cH 72).isEmpty) = true := rfl
  show ((inH [(1, 0), (1, 217), (1, 218), (1, 219)] 0 (Cond.initialized (cY 72).cls) && ((cY 72).cls != "java/lang/invoke/MethodHandle" && ((cY 72).cls != "java/lang/invoke/VarHandle" && (decide ((parseMethodDescriptor (cY 72).desc).map (fun d => d.parameters.length) = some (cP 72)) && (inH [(1, 0), (1, 217), (1, 218), (1, 219)] 1 (Cond.methodLink (cNm 7) 176 (cY 72)) && inH [(1, 0), (1, 217), (1, 218), (1, 219)] 2 (Cond.static (cY 72)) && inH [(1, 0), (1, 217), (1, 218), (1, 219)] 3 (Cond.code (cY 72) (cB 72) (cN 72) (cR 72)) && (cH 72).isEmpty))))) && true) = true
  rw [a1, a2, a3, a4, b1, b2, e, b4]
  rfl
theorem mT_all_40 : (mTH_40.all fun q => mchk q.1 q.2) = true := by
  have e0 : wat 3 120 = some (Cond.code (cY 88) (cB 88) (cN 88) (cR 88)) := rfl
  have e : inH [(1, 0), (3, 118), (3, 119), (3, 120)] 3 (Cond.code (cY 88) (cB 88) (cN 88) (cR 88)) = true := by
    unfold inH
    rw [Bool.and_eq_true]
    exact ⟨decide_eq_true e0, rfl⟩
  have a1 : inH [(1, 0), (3, 118), (3, 119), (3, 120)] 0 (Cond.initialized (cY 88).cls) = true := by decide +kernel
  have a2 : ((cY 88).cls != "java/lang/invoke/MethodHandle") = true := by decide +kernel
  have a3 : ((cY 88).cls != "java/lang/invoke/VarHandle") = true := by decide +kernel
  have a4 : decide ((parseMethodDescriptor (cY 88).desc).map (fun d => d.parameters.length) = some (cP 88)) = true := by decide +kernel
  have b1 : inH [(1, 0), (3, 118), (3, 119), (3, 120)] 1 (Cond.methodLink (cNm 7) 180 (cY 88)) = true := by decide +kernel
  have b2 : inH [(1, 0), (3, 118), (3, 119), (3, 120)] 2 (Cond.static (cY 88)) = true := by decide +kernel
  have b4 : ((cH 88).isEmpty) = true := rfl
  show ((inH [(1, 0), (3, 118), (3, 119), (3, 120)] 0 (Cond.initialized (cY 88).cls) && ((cY 88).cls != "java/lang/invoke/MethodHandle" && ((cY 88).cls != "java/lang/invoke/VarHandle" && (decide ((parseMethodDescriptor (cY 88).desc).map (fun d => d.parameters.length) = some (cP 88)) && (inH [(1, 0), (3, 118), (3, 119), (3, 120)] 1 (Cond.methodLink (cNm 7) 180 (cY 88)) && inH [(1, 0), (3, 118), (3, 119), (3, 120)] 2 (Cond.static (cY 88)) && inH [(1, 0), (3, 118), (3, 119), (3, 120)] 3 (Cond.code (cY 88) (cB 88) (cN 88) (cR 88)) && (cH 88).isEmpty))))) && true) = true
  rw [a1, a2, a3, a4, b1, b2, e, b4]
  rfl
theorem mT_all_41 : (mTH_41.all fun q => mchk q.1 q.2) = true := by
  have e0 : wat 3 144 = some (Cond.code (cY 90) (cB 90) (cN 90) (cR 90)) := rfl
  have e : inH [(1, 0), (3, 142), (3, 143), (3, 144)] 3 (Cond.code (cY 90) (cB 90) (cN 90) (cR 90)) = true := by
    unfold inH
    rw [Bool.and_eq_true]
    exact ⟨decide_eq_true e0, rfl⟩
  have a1 : inH [(1, 0), (3, 142), (3, 143), (3, 144)] 0 (Cond.initialized (cY 90).cls) = true := by decide +kernel
  have a2 : ((cY 90).cls != "java/lang/invoke/MethodHandle") = true := by decide +kernel
  have a3 : ((cY 90).cls != "java/lang/invoke/VarHandle") = true := by decide +kernel
  have a4 : decide ((parseMethodDescriptor (cY 90).desc).map (fun d => d.parameters.length) = some (cP 90)) = true := by decide +kernel
  have b1 : inH [(1, 0), (3, 142), (3, 143), (3, 144)] 1 (Cond.methodLink (cNm 7) 184 (cY 90)) = true := by decide +kernel
  have b2 : inH [(1, 0), (3, 142), (3, 143), (3, 144)] 2 (Cond.static (cY 90)) = true := by decide +kernel
  have b4 : ((cH 90).isEmpty) = true := rfl
  show ((inH [(1, 0), (3, 142), (3, 143), (3, 144)] 0 (Cond.initialized (cY 90).cls) && ((cY 90).cls != "java/lang/invoke/MethodHandle" && ((cY 90).cls != "java/lang/invoke/VarHandle" && (decide ((parseMethodDescriptor (cY 90).desc).map (fun d => d.parameters.length) = some (cP 90)) && (inH [(1, 0), (3, 142), (3, 143), (3, 144)] 1 (Cond.methodLink (cNm 7) 184 (cY 90)) && inH [(1, 0), (3, 142), (3, 143), (3, 144)] 2 (Cond.static (cY 90)) && inH [(1, 0), (3, 142), (3, 143), (3, 144)] 3 (Cond.code (cY 90) (cB 90) (cN 90) (cR 90)) && (cH 90).isEmpty))))) && true) = true
  rw [a1, a2, a3, a4, b1, b2, e, b4]
  rfl
theorem mT_all_42 : (mTH_42.all fun q => mchk q.1 q.2) = true := by
  have e0 : wat 3 147 = some (Cond.code (cY 93) (cB 93) (cN 93) (cR 93)) := rfl
  have e : inH [(1, 0), (3, 145), (3, 146), (3, 147)] 3 (Cond.code (cY 93) (cB 93) (cN 93) (cR 93)) = true := by
    unfold inH
    rw [Bool.and_eq_true]
    exact ⟨decide_eq_true e0, rfl⟩
  have a1 : inH [(1, 0), (3, 145), (3, 146), (3, 147)] 0 (Cond.initialized (cY 93).cls) = true := by decide +kernel
  have a2 : ((cY 93).cls != "java/lang/invoke/MethodHandle") = true := by decide +kernel
  have a3 : ((cY 93).cls != "java/lang/invoke/VarHandle") = true := by decide +kernel
  have a4 : decide ((parseMethodDescriptor (cY 93).desc).map (fun d => d.parameters.length) = some (cP 93)) = true := by decide +kernel
  have b1 : inH [(1, 0), (3, 145), (3, 146), (3, 147)] 1 (Cond.methodLink (cNm 7) 188 (cY 93)) = true := by decide +kernel
  have b2 : inH [(1, 0), (3, 145), (3, 146), (3, 147)] 2 (Cond.static (cY 93)) = true := by decide +kernel
  have b4 : ((cH 93).isEmpty) = true := rfl
  show ((inH [(1, 0), (3, 145), (3, 146), (3, 147)] 0 (Cond.initialized (cY 93).cls) && ((cY 93).cls != "java/lang/invoke/MethodHandle" && ((cY 93).cls != "java/lang/invoke/VarHandle" && (decide ((parseMethodDescriptor (cY 93).desc).map (fun d => d.parameters.length) = some (cP 93)) && (inH [(1, 0), (3, 145), (3, 146), (3, 147)] 1 (Cond.methodLink (cNm 7) 188 (cY 93)) && inH [(1, 0), (3, 145), (3, 146), (3, 147)] 2 (Cond.static (cY 93)) && inH [(1, 0), (3, 145), (3, 146), (3, 147)] 3 (Cond.code (cY 93) (cB 93) (cN 93) (cR 93)) && (cH 93).isEmpty))))) && true) = true
  rw [a1, a2, a3, a4, b1, b2, e, b4]
  rfl
theorem mT_all_43 : (mTH_43.all fun q => mchk q.1 q.2) = true := by
  have e0 : wat 3 59 = some (Cond.code (cY 87) (cB 87) (cN 87) (cR 87)) := rfl
  have e : inH [(1, 0), (3, 57), (3, 58), (3, 59)] 3 (Cond.code (cY 87) (cB 87) (cN 87) (cR 87)) = true := by
    unfold inH
    rw [Bool.and_eq_true]
    exact ⟨decide_eq_true e0, rfl⟩
  have a1 : inH [(1, 0), (3, 57), (3, 58), (3, 59)] 0 (Cond.initialized (cY 87).cls) = true := by decide +kernel
  have a2 : ((cY 87).cls != "java/lang/invoke/MethodHandle") = true := by decide +kernel
  have a3 : ((cY 87).cls != "java/lang/invoke/VarHandle") = true := by decide +kernel
  have a4 : decide ((parseMethodDescriptor (cY 87).desc).map (fun d => d.parameters.length) = some (cP 87)) = true := by decide +kernel
  have b1 : inH [(1, 0), (3, 57), (3, 58), (3, 59)] 1 (Cond.methodLink (cNm 7) 192 (cY 87)) = true := by decide +kernel
  have b2 : inH [(1, 0), (3, 57), (3, 58), (3, 59)] 2 (Cond.static (cY 87)) = true := by decide +kernel
  have b4 : ((cH 87).isEmpty) = true := rfl
  show ((inH [(1, 0), (3, 57), (3, 58), (3, 59)] 0 (Cond.initialized (cY 87).cls) && ((cY 87).cls != "java/lang/invoke/MethodHandle" && ((cY 87).cls != "java/lang/invoke/VarHandle" && (decide ((parseMethodDescriptor (cY 87).desc).map (fun d => d.parameters.length) = some (cP 87)) && (inH [(1, 0), (3, 57), (3, 58), (3, 59)] 1 (Cond.methodLink (cNm 7) 192 (cY 87)) && inH [(1, 0), (3, 57), (3, 58), (3, 59)] 2 (Cond.static (cY 87)) && inH [(1, 0), (3, 57), (3, 58), (3, 59)] 3 (Cond.code (cY 87) (cB 87) (cN 87) (cR 87)) && (cH 87).isEmpty))))) && true) = true
  rw [a1, a2, a3, a4, b1, b2, e, b4]
  rfl
