theorem mT_all_11 : (mTH_11.all fun q => mchk q.1 q.2) = true := by decide +kernel
theorem mT_all_12 : (mTH_12.all fun q => mchk q.1 q.2) = true := by decide +kernel
theorem mT_all_13 : (mTH_13.all fun q => mchk q.1 q.2) = true := by
  have e0 : wat 2 213 = some (Cond.code (cY 74) (cB 74) (cN 74) (cR 74)) := rfl
  have e : inH [(1, 0), (2, 211), (2, 212), (2, 213)] 3 (Cond.code (cY 74) (cB 74) (cN 74) (cR 74)) = true := by
    unfold inH
    rw [Bool.and_eq_true]
    exact ⟨decide_eq_true e0, rfl⟩
  have a1 : inH [(1, 0), (2, 211), (2, 212), (2, 213)] 0 (Cond.initialized (cY 74).cls) = true := by decide +kernel
  have a2 : ((cY 74).cls != "java/lang/invoke/MethodHandle") = true := by decide +kernel
  have a3 : ((cY 74).cls != "java/lang/invoke/VarHandle") = true := by decide +kernel
  have a4 : decide ((parseMethodDescriptor (cY 74).desc).map (fun d => d.parameters.length) = some (cP 74)) = true := by decide +kernel
  have b1 : inH [(1, 0), (2, 211), (2, 212), (2, 213)] 1 (Cond.methodLink (cNm 7) 37 (cY 74)) = true := by decide +kernel
  have b2 : inH [(1, 0), (2, 211), (2, 212), (2, 213)] 2 (Cond.static (cY 74)) = true := by decide +kernel
  have b4 : ((cH 74).isEmpty) = true := rfl
  show ((inH [(1, 0), (2, 211), (2, 212), (2, 213)] 0 (Cond.initialized (cY 74).cls) && ((cY 74).cls != "java/lang/invoke/MethodHandle" && ((cY 74).cls != "java/lang/invoke/VarHandle" && (decide ((parseMethodDescriptor (cY 74).desc).map (fun d => d.parameters.length) = some (cP 74)) && (inH [(1, 0), (2, 211), (2, 212), (2, 213)] 1 (Cond.methodLink (cNm 7) 37 (cY 74)) && inH [(1, 0), (2, 211), (2, 212), (2, 213)] 2 (Cond.static (cY 74)) && inH [(1, 0), (2, 211), (2, 212), (2, 213)] 3 (Cond.code (cY 74) (cB 74) (cN 74) (cR 74)) && (cH 74).isEmpty))))) && true) = true
  rw [a1, a2, a3, a4, b1, b2, e, b4]
  rfl
theorem mT_all_14 : (mTH_14.all fun q => mchk q.1 q.2) = true := by decide +kernel
theorem mT_all_15 : (mTH_15.all fun q => mchk q.1 q.2) = true := by decide +kernel
theorem mT_all_16 : (mTH_16.all fun q => mchk q.1 q.2) = true := by decide +kernel
theorem mT_all_17 : (mTH_17.all fun q => mchk q.1 q.2) = true := by decide +kernel
theorem mT_all_18 : (mTH_18.all fun q => mchk q.1 q.2) = true := by
  have e0 : wat 3 53 = some (Cond.code (cY 75) (cB 75) (cN 75) (cR 75)) := rfl
  have e : inH [(1, 0), (3, 51), (3, 52), (3, 53)] 3 (Cond.code (cY 75) (cB 75) (cN 75) (cR 75)) = true := by
    unfold inH
    rw [Bool.and_eq_true]
    exact ⟨decide_eq_true e0, rfl⟩
  have a1 : inH [(1, 0), (3, 51), (3, 52), (3, 53)] 0 (Cond.initialized (cY 75).cls) = true := by decide +kernel
  have a2 : ((cY 75).cls != "java/lang/invoke/MethodHandle") = true := by decide +kernel
  have a3 : ((cY 75).cls != "java/lang/invoke/VarHandle") = true := by decide +kernel
  have a4 : decide ((parseMethodDescriptor (cY 75).desc).map (fun d => d.parameters.length) = some (cP 75)) = true := by decide +kernel
  have b1 : inH [(1, 0), (3, 51), (3, 52), (3, 53)] 1 (Cond.methodLink (cNm 7) 84 (cY 75)) = true := by decide +kernel
  have b2 : inH [(1, 0), (3, 51), (3, 52), (3, 53)] 2 (Cond.static (cY 75)) = true := by decide +kernel
  have b4 : ((cH 75).isEmpty) = true := rfl
  show ((inH [(1, 0), (3, 51), (3, 52), (3, 53)] 0 (Cond.initialized (cY 75).cls) && ((cY 75).cls != "java/lang/invoke/MethodHandle" && ((cY 75).cls != "java/lang/invoke/VarHandle" && (decide ((parseMethodDescriptor (cY 75).desc).map (fun d => d.parameters.length) = some (cP 75)) && (inH [(1, 0), (3, 51), (3, 52), (3, 53)] 1 (Cond.methodLink (cNm 7) 84 (cY 75)) && inH [(1, 0), (3, 51), (3, 52), (3, 53)] 2 (Cond.static (cY 75)) && inH [(1, 0), (3, 51), (3, 52), (3, 53)] 3 (Cond.code (cY 75) (cB 75) (cN 75) (cR 75)) && (cH 75).isEmpty))))) && true) = true
  rw [a1, a2, a3, a4, b1, b2, e, b4]
  rfl
theorem mT_all_19 : (mTH_19.all fun q => mchk q.1 q.2) = true := by
  have e0 : wat 3 56 = some (Cond.code (cY 76) (cB 76) (cN 76) (cR 76)) := rfl
  have e : inH [(1, 0), (3, 54), (3, 55), (3, 56)] 3 (Cond.code (cY 76) (cB 76) (cN 76) (cR 76)) = true := by
    unfold inH
    rw [Bool.and_eq_true]
    exact ⟨decide_eq_true e0, rfl⟩
  have a1 : inH [(1, 0), (3, 54), (3, 55), (3, 56)] 0 (Cond.initialized (cY 76).cls) = true := by decide +kernel
  have a2 : ((cY 76).cls != "java/lang/invoke/MethodHandle") = true := by decide +kernel
  have a3 : ((cY 76).cls != "java/lang/invoke/VarHandle") = true := by decide +kernel
  have a4 : decide ((parseMethodDescriptor (cY 76).desc).map (fun d => d.parameters.length) = some (cP 76)) = true := by decide +kernel
  have b1 : inH [(1, 0), (3, 54), (3, 55), (3, 56)] 1 (Cond.methodLink (cNm 7) 87 (cY 76)) = true := by decide +kernel
  have b2 : inH [(1, 0), (3, 54), (3, 55), (3, 56)] 2 (Cond.static (cY 76)) = true := by decide +kernel
  have b4 : ((cH 76).isEmpty) = true := rfl
  show ((inH [(1, 0), (3, 54), (3, 55), (3, 56)] 0 (Cond.initialized (cY 76).cls) && ((cY 76).cls != "java/lang/invoke/MethodHandle" && ((cY 76).cls != "java/lang/invoke/VarHandle" && (decide ((parseMethodDescriptor (cY 76).desc).map (fun d => d.parameters.length) = some (cP 76)) && (inH [(1, 0), (3, 54), (3, 55), (3, 56)] 1 (Cond.methodLink (cNm 7) 87 (cY 76)) && inH [(1, 0), (3, 54), (3, 55), (3, 56)] 2 (Cond.static (cY 76)) && inH [(1, 0), (3, 54), (3, 55), (3, 56)] 3 (Cond.code (cY 76) (cB 76) (cN 76) (cR 76)) && (cH 76).isEmpty))))) && true) = true
  rw [a1, a2, a3, a4, b1, b2, e, b4]
  rfl
theorem mT_all_20 : (mTH_20.all fun q => mchk q.1 q.2) = true := by
  have e0 : wat 3 141 = some (Cond.code (cY 79) (cB 79) (cN 79) (cR 79)) := rfl
  have e : inH [(1, 0), (3, 139), (3, 140), (3, 141)] 3 (Cond.code (cY 79) (cB 79) (cN 79) (cR 79)) = true := by
    unfold inH
    rw [Bool.and_eq_true]
    exact ⟨decide_eq_true e0, rfl⟩
  have a1 : inH [(1, 0), (3, 139), (3, 140), (3, 141)] 0 (Cond.initialized (cY 79).cls) = true := by decide +kernel
  have a2 : ((cY 79).cls != "java/lang/invoke/MethodHandle") = true := by decide +kernel
  have a3 : ((cY 79).cls != "java/lang/invoke/VarHandle") = true := by decide +kernel
  have a4 : decide ((parseMethodDescriptor (cY 79).desc).map (fun d => d.parameters.length) = some (cP 79)) = true := by decide +kernel
  have b1 : inH [(1, 0), (3, 139), (3, 140), (3, 141)] 1 (Cond.methodLink (cNm 7) 91 (cY 79)) = true := by decide +kernel
  have b2 : inH [(1, 0), (3, 139), (3, 140), (3, 141)] 2 (Cond.static (cY 79)) = true := by decide +kernel
  have b4 : ((cH 79).isEmpty) = true := rfl
  show ((inH [(1, 0), (3, 139), (3, 140), (3, 141)] 0 (Cond.initialized (cY 79).cls) && ((cY 79).cls != "java/lang/invoke/MethodHandle" && ((cY 79).cls != "java/lang/invoke/VarHandle" && (decide ((parseMethodDescriptor (cY 79).desc).map (fun d => d.parameters.length) = some (cP 79)) && (inH [(1, 0), (3, 139), (3, 140), (3, 141)] 1 (Cond.methodLink (cNm 7) 91 (cY 79)) && inH [(1, 0), (3, 139), (3, 140), (3, 141)] 2 (Cond.static (cY 79)) && inH [(1, 0), (3, 139), (3, 140), (3, 141)] 3 (Cond.code (cY 79) (cB 79) (cN 79) (cR 79)) && (cH 79).isEmpty))))) && true) = true
  rw [a1, a2, a3, a4, b1, b2, e, b4]
  rfl
theorem mT_all_21 : (mTH_21.all fun q => mchk q.1 q.2) = true := by
  have e0 : wat 3 138 = some (Cond.code (cY 78) (cB 78) (cN 78) (cR 78)) := rfl
  have e : inH [(1, 0), (3, 136), (3, 137), (3, 138)] 3 (Cond.code (cY 78) (cB 78) (cN 78) (cR 78)) = true := by
    unfold inH
    rw [Bool.and_eq_true]
    exact ⟨decide_eq_true e0, rfl⟩
  have a1 : inH [(1, 0), (3, 136), (3, 137), (3, 138)] 0 (Cond.initialized (cY 78).cls) = true := by decide +kernel
  have a2 : ((cY 78).cls != "java/lang/invoke/MethodHandle") = true := by decide +kernel
  have a3 : ((cY 78).cls != "java/lang/invoke/VarHandle") = true := by decide +kernel
  have a4 : decide ((parseMethodDescriptor (cY 78).desc).map (fun d => d.parameters.length) = some (cP 78)) = true := by decide +kernel
  have b1 : inH [(1, 0), (3, 136), (3, 137), (3, 138)] 1 (Cond.methodLink (cNm 7) 95 (cY 78)) = true := by decide +kernel
  have b2 : inH [(1, 0), (3, 136), (3, 137), (3, 138)] 2 (Cond.static (cY 78)) = true := by decide +kernel
  have b4 : ((cH 78).isEmpty) = true := rfl
  show ((inH [(1, 0), (3, 136), (3, 137), (3, 138)] 0 (Cond.initialized (cY 78).cls) && ((cY 78).cls != "java/lang/invoke/MethodHandle" && ((cY 78).cls != "java/lang/invoke/VarHandle" && (decide ((parseMethodDescriptor (cY 78).desc).map (fun d => d.parameters.length) = some (cP 78)) && (inH [(1, 0), (3, 136), (3, 137), (3, 138)] 1 (Cond.methodLink (cNm 7) 95 (cY 78)) && inH [(1, 0), (3, 136), (3, 137), (3, 138)] 2 (Cond.static (cY 78)) && inH [(1, 0), (3, 136), (3, 137), (3, 138)] 3 (Cond.code (cY 78) (cB 78) (cN 78) (cR 78)) && (cH 78).isEmpty))))) && true) = true
  rw [a1, a2, a3, a4, b1, b2, e, b4]
  rfl
