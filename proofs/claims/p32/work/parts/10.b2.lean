theorem mT_all_22 : (mTH_22.all fun q => mchk q.1 q.2) = true := by
  have e0 : wat 3 135 = some (Cond.code (cY 80) (cB 80) (cN 80) (cR 80)) := rfl
  have e : inH [(1, 0), (3, 133), (3, 134), (3, 135)] 3 (Cond.code (cY 80) (cB 80) (cN 80) (cR 80)) = true := by
    unfold inH
    rw [Bool.and_eq_true]
    exact ⟨decide_eq_true e0, rfl⟩
  have a1 : inH [(1, 0), (3, 133), (3, 134), (3, 135)] 0 (Cond.initialized (cY 80).cls) = true := by decide +kernel
  have a2 : ((cY 80).cls != "java/lang/invoke/MethodHandle") = true := by decide +kernel
  have a3 : ((cY 80).cls != "java/lang/invoke/VarHandle") = true := by decide +kernel
  have a4 : decide ((parseMethodDescriptor (cY 80).desc).map (fun d => d.parameters.length) = some (cP 80)) = true := by decide +kernel
  have b1 : inH [(1, 0), (3, 133), (3, 134), (3, 135)] 1 (Cond.methodLink (cNm 7) 98 (cY 80)) = true := by decide +kernel
  have b2 : inH [(1, 0), (3, 133), (3, 134), (3, 135)] 2 (Cond.static (cY 80)) = true := by decide +kernel
  have b4 : ((cH 80).isEmpty) = true := rfl
  show ((inH [(1, 0), (3, 133), (3, 134), (3, 135)] 0 (Cond.initialized (cY 80).cls) && ((cY 80).cls != "java/lang/invoke/MethodHandle" && ((cY 80).cls != "java/lang/invoke/VarHandle" && (decide ((parseMethodDescriptor (cY 80).desc).map (fun d => d.parameters.length) = some (cP 80)) && (inH [(1, 0), (3, 133), (3, 134), (3, 135)] 1 (Cond.methodLink (cNm 7) 98 (cY 80)) && inH [(1, 0), (3, 133), (3, 134), (3, 135)] 2 (Cond.static (cY 80)) && inH [(1, 0), (3, 133), (3, 134), (3, 135)] 3 (Cond.code (cY 80) (cB 80) (cN 80) (cR 80)) && (cH 80).isEmpty))))) && true) = true
  rw [a1, a2, a3, a4, b1, b2, e, b4]
  rfl
theorem mT_all_23 : (mTH_23.all fun q => mchk q.1 q.2) = true := by
  have e0 : wat 3 132 = some (Cond.code (cY 81) (cB 81) (cN 81) (cR 81)) := rfl
  have e : inH [(1, 0), (3, 130), (3, 131), (3, 132)] 3 (Cond.code (cY 81) (cB 81) (cN 81) (cR 81)) = true := by
    unfold inH
    rw [Bool.and_eq_true]
    exact ⟨decide_eq_true e0, rfl⟩
  have a1 : inH [(1, 0), (3, 130), (3, 131), (3, 132)] 0 (Cond.initialized (cY 81).cls) = true := by decide +kernel
  have a2 : ((cY 81).cls != "java/lang/invoke/MethodHandle") = true := by decide +kernel
  have a3 : ((cY 81).cls != "java/lang/invoke/VarHandle") = true := by decide +kernel
  have a4 : decide ((parseMethodDescriptor (cY 81).desc).map (fun d => d.parameters.length) = some (cP 81)) = true := by decide +kernel
  have b1 : inH [(1, 0), (3, 130), (3, 131), (3, 132)] 1 (Cond.methodLink (cNm 7) 102 (cY 81)) = true := by decide +kernel
  have b2 : inH [(1, 0), (3, 130), (3, 131), (3, 132)] 2 (Cond.static (cY 81)) = true := by decide +kernel
  have b4 : ((cH 81).isEmpty) = true := rfl
  show ((inH [(1, 0), (3, 130), (3, 131), (3, 132)] 0 (Cond.initialized (cY 81).cls) && ((cY 81).cls != "java/lang/invoke/MethodHandle" && ((cY 81).cls != "java/lang/invoke/VarHandle" && (decide ((parseMethodDescriptor (cY 81).desc).map (fun d => d.parameters.length) = some (cP 81)) && (inH [(1, 0), (3, 130), (3, 131), (3, 132)] 1 (Cond.methodLink (cNm 7) 102 (cY 81)) && inH [(1, 0), (3, 130), (3, 131), (3, 132)] 2 (Cond.static (cY 81)) && inH [(1, 0), (3, 130), (3, 131), (3, 132)] 3 (Cond.code (cY 81) (cB 81) (cN 81) (cR 81)) && (cH 81).isEmpty))))) && true) = true
  rw [a1, a2, a3, a4, b1, b2, e, b4]
  rfl
theorem mT_all_24 : (mTH_24.all fun q => mchk q.1 q.2) = true := by
  have e0 : wat 3 62 = some (Cond.code (cY 83) (cB 83) (cN 83) (cR 83)) := rfl
  have e : inH [(1, 0), (3, 60), (3, 61), (3, 62)] 3 (Cond.code (cY 83) (cB 83) (cN 83) (cR 83)) = true := by
    unfold inH
    rw [Bool.and_eq_true]
    exact ⟨decide_eq_true e0, rfl⟩
  have a1 : inH [(1, 0), (3, 60), (3, 61), (3, 62)] 0 (Cond.initialized (cY 83).cls) = true := by decide +kernel
  have a2 : ((cY 83).cls != "java/lang/invoke/MethodHandle") = true := by decide +kernel
  have a3 : ((cY 83).cls != "java/lang/invoke/VarHandle") = true := by decide +kernel
  have a4 : decide ((parseMethodDescriptor (cY 83).desc).map (fun d => d.parameters.length) = some (cP 83)) = true := by decide +kernel
  have b1 : inH [(1, 0), (3, 60), (3, 61), (3, 62)] 1 (Cond.methodLink (cNm 7) 105 (cY 83)) = true := by decide +kernel
  have b2 : inH [(1, 0), (3, 60), (3, 61), (3, 62)] 2 (Cond.static (cY 83)) = true := by decide +kernel
  have b4 : ((cH 83).isEmpty) = true := rfl
  show ((inH [(1, 0), (3, 60), (3, 61), (3, 62)] 0 (Cond.initialized (cY 83).cls) && ((cY 83).cls != "java/lang/invoke/MethodHandle" && ((cY 83).cls != "java/lang/invoke/VarHandle" && (decide ((parseMethodDescriptor (cY 83).desc).map (fun d => d.parameters.length) = some (cP 83)) && (inH [(1, 0), (3, 60), (3, 61), (3, 62)] 1 (Cond.methodLink (cNm 7) 105 (cY 83)) && inH [(1, 0), (3, 60), (3, 61), (3, 62)] 2 (Cond.static (cY 83)) && inH [(1, 0), (3, 60), (3, 61), (3, 62)] 3 (Cond.code (cY 83) (cB 83) (cN 83) (cR 83)) && (cH 83).isEmpty))))) && true) = true
  rw [a1, a2, a3, a4, b1, b2, e, b4]
  rfl
theorem mT_all_25 : (mTH_25.all fun q => mchk q.1 q.2) = true := by
  have e0 : wat 3 65 = some (Cond.code (cY 85) (cB 85) (cN 85) (cR 85)) := rfl
  have e : inH [(1, 0), (3, 63), (3, 64), (3, 65)] 3 (Cond.code (cY 85) (cB 85) (cN 85) (cR 85)) = true := by
    unfold inH
    rw [Bool.and_eq_true]
    exact ⟨decide_eq_true e0, rfl⟩
  have a1 : inH [(1, 0), (3, 63), (3, 64), (3, 65)] 0 (Cond.initialized (cY 85).cls) = true := by decide +kernel
  have a2 : ((cY 85).cls != "java/lang/invoke/MethodHandle") = true := by decide +kernel
  have a3 : ((cY 85).cls != "java/lang/invoke/VarHandle") = true := by decide +kernel
  have a4 : decide ((parseMethodDescriptor (cY 85).desc).map (fun d => d.parameters.length) = some (cP 85)) = true := by decide +kernel
  have b1 : inH [(1, 0), (3, 63), (3, 64), (3, 65)] 1 (Cond.methodLink (cNm 7) 109 (cY 85)) = true := by decide +kernel
  have b2 : inH [(1, 0), (3, 63), (3, 64), (3, 65)] 2 (Cond.static (cY 85)) = true := by decide +kernel
  have b4 : ((cH 85).isEmpty) = true := rfl
  show ((inH [(1, 0), (3, 63), (3, 64), (3, 65)] 0 (Cond.initialized (cY 85).cls) && ((cY 85).cls != "java/lang/invoke/MethodHandle" && ((cY 85).cls != "java/lang/invoke/VarHandle" && (decide ((parseMethodDescriptor (cY 85).desc).map (fun d => d.parameters.length) = some (cP 85)) && (inH [(1, 0), (3, 63), (3, 64), (3, 65)] 1 (Cond.methodLink (cNm 7) 109 (cY 85)) && inH [(1, 0), (3, 63), (3, 64), (3, 65)] 2 (Cond.static (cY 85)) && inH [(1, 0), (3, 63), (3, 64), (3, 65)] 3 (Cond.code (cY 85) (cB 85) (cN 85) (cR 85)) && (cH 85).isEmpty))))) && true) = true
  rw [a1, a2, a3, a4, b1, b2, e, b4]
  rfl
theorem mT_all_26 : (mTH_26.all fun q => mchk q.1 q.2) = true := by decide +kernel
theorem mT_all_27 : (mTH_27.all fun q => mchk q.1 q.2) = true := by decide +kernel
theorem mT_all_28 : (mTH_28.all fun q => mchk q.1 q.2) = true := by decide +kernel
theorem mT_all_29 : (mTH_29.all fun q => mchk q.1 q.2) = true := by
  have e0 : wat 3 117 = some (Cond.code (cY 86) (cB 86) (cN 86) (cR 86)) := rfl
  have e : inH [(1, 0), (3, 115), (3, 116), (3, 117)] 3 (Cond.code (cY 86) (cB 86) (cN 86) (cR 86)) = true := by
    unfold inH
    rw [Bool.and_eq_true]
    exact ⟨decide_eq_true e0, rfl⟩
  have a1 : inH [(1, 0), (3, 115), (3, 116), (3, 117)] 0 (Cond.initialized (cY 86).cls) = true := by decide +kernel
  have a2 : ((cY 86).cls != "java/lang/invoke/MethodHandle") = true := by decide +kernel
  have a3 : ((cY 86).cls != "java/lang/invoke/VarHandle") = true := by decide +kernel
  have a4 : decide ((parseMethodDescriptor (cY 86).desc).map (fun d => d.parameters.length) = some (cP 86)) = true := by decide +kernel
  have b1 : inH [(1, 0), (3, 115), (3, 116), (3, 117)] 1 (Cond.methodLink (cNm 7) 132 (cY 86)) = true := by decide +kernel
  have b2 : inH [(1, 0), (3, 115), (3, 116), (3, 117)] 2 (Cond.static (cY 86)) = true := by decide +kernel
  have b4 : ((cH 86).isEmpty) = true := rfl
  show ((inH [(1, 0), (3, 115), (3, 116), (3, 117)] 0 (Cond.initialized (cY 86).cls) && ((cY 86).cls != "java/lang/invoke/MethodHandle" && ((cY 86).cls != "java/lang/invoke/VarHandle" && (decide ((parseMethodDescriptor (cY 86).desc).map (fun d => d.parameters.length) = some (cP 86)) && (inH [(1, 0), (3, 115), (3, 116), (3, 117)] 1 (Cond.methodLink (cNm 7) 132 (cY 86)) && inH [(1, 0), (3, 115), (3, 116), (3, 117)] 2 (Cond.static (cY 86)) && inH [(1, 0), (3, 115), (3, 116), (3, 117)] 3 (Cond.code (cY 86) (cB 86) (cN 86) (cR 86)) && (cH 86).isEmpty))))) && true) = true
  rw [a1, a2, a3, a4, b1, b2, e, b4]
  rfl
theorem mT_all_30 : (mTH_30.all fun q => mchk q.1 q.2) = true := by
  have e0 : wat 1 223 = some (Cond.codeWith (cY 73) (cB 73) (cN 73) (cR 73) (cH 73)) := rfl
  have e : inH [(1, 0), (1, 221), (1, 222), (1, 223)] 3 (Cond.codeWith (cY 73) (cB 73) (cN 73) (cR 73) (cH 73)) = true := by
    unfold inH
    rw [Bool.and_eq_true]
    exact ⟨decide_eq_true e0, rfl⟩
  have a1 : inH [(1, 0), (1, 221), (1, 222), (1, 223)] 0 (Cond.initialized (cY 73).cls) = true := by decide +kernel
  have a2 : ((cY 73).cls != "java/lang/invoke/MethodHandle") = true := by decide +kernel
  have a3 : ((cY 73).cls != "java/lang/invoke/VarHandle") = true := by decide +kernel
  have a4 : decide ((parseMethodDescriptor (cY 73).desc).map (fun d => d.parameters.length) = some (cP 73)) = true := by decide +kernel
  have b1 : inH [(1, 0), (1, 221), (1, 222), (1, 223)] 1 (Cond.methodLink (cNm 7) 135 (cY 73)) = true := by decide +kernel
  have b2 : inH [(1, 0), (1, 221), (1, 222), (1, 223)] 2 (Cond.static (cY 73)) = true := by decide +kernel
  have b4 : (!(cH 73).isEmpty) = true := rfl
  show ((inH [(1, 0), (1, 221), (1, 222), (1, 223)] 0 (Cond.initialized (cY 73).cls) && ((cY 73).cls != "java/lang/invoke/MethodHandle" && ((cY 73).cls != "java/lang/invoke/VarHandle" && (decide ((parseMethodDescriptor (cY 73).desc).map (fun d => d.parameters.length) = some (cP 73)) && (inH [(1, 0), (1, 221), (1, 222), (1, 223)] 1 (Cond.methodLink (cNm 7) 135 (cY 73)) && inH [(1, 0), (1, 221), (1, 222), (1, 223)] 2 (Cond.static (cY 73)) && inH [(1, 0), (1, 221), (1, 222), (1, 223)] 3 (Cond.codeWith (cY 73) (cB 73) (cN 73) (cR 73) (cH 73)) && !(cH 73).isEmpty))))) && true) = true
  rw [a1, a2, a3, a4, b1, b2, e, b4]
  rfl
theorem mT_all_31 : (mTH_31.all fun q => mchk q.1 q.2) = true := by
  have e0 : wat 3 50 = some (Cond.code (cY 77) (cB 77) (cN 77) (cR 77)) := rfl
  have e : inH [(1, 0), (3, 48), (3, 49), (3, 50)] 3 (Cond.code (cY 77) (cB 77) (cN 77) (cR 77)) = true := by
    unfold inH
    rw [Bool.and_eq_true]
    exact ⟨decide_eq_true e0, rfl⟩
  have a1 : inH [(1, 0), (3, 48), (3, 49), (3, 50)] 0 (Cond.initialized (cY 77).cls) = true := by decide +kernel
  have a2 : ((cY 77).cls != "java/lang/invoke/MethodHandle") = true := by decide +kernel
  have a3 : ((cY 77).cls != "java/lang/invoke/VarHandle") = true := by decide +kernel
  have a4 : decide ((parseMethodDescriptor (cY 77).desc).map (fun d => d.parameters.length) = some (cP 77)) = true := by decide +kernel
  have b1 : inH [(1, 0), (3, 48), (3, 49), (3, 50)] 1 (Cond.methodLink (cNm 7) 139 (cY 77)) = true := by decide +kernel
  have b2 : inH [(1, 0), (3, 48), (3, 49), (3, 50)] 2 (Cond.static (cY 77)) = true := by decide +kernel
  have b4 : ((cH 77).isEmpty) = true := rfl
  show ((inH [(1, 0), (3, 48), (3, 49), (3, 50)] 0 (Cond.initialized (cY 77).cls) && ((cY 77).cls != "java/lang/invoke/MethodHandle" && ((cY 77).cls != "java/lang/invoke/VarHandle" && (decide ((parseMethodDescriptor (cY 77).desc).map (fun d => d.parameters.length) = some (cP 77)) && (inH [(1, 0), (3, 48), (3, 49), (3, 50)] 1 (Cond.methodLink (cNm 7) 139 (cY 77)) && inH [(1, 0), (3, 48), (3, 49), (3, 50)] 2 (Cond.static (cY 77)) && inH [(1, 0), (3, 48), (3, 49), (3, 50)] 3 (Cond.code (cY 77) (cB 77) (cN 77) (cR 77)) && (cH 77).isEmpty))))) && true) = true
  rw [a1, a2, a3, a4, b1, b2, e, b4]
  rfl
theorem mT_all_32 : (mTH_32.all fun q => mchk q.1 q.2) = true := by
  have e0 : wat 3 123 = some (Cond.code (cY 84) (cB 84) (cN 84) (cR 84)) := rfl
  have e : inH [(1, 0), (3, 121), (3, 122), (3, 123)] 3 (Cond.code (cY 84) (cB 84) (cN 84) (cR 84)) = true := by
    unfold inH
    rw [Bool.and_eq_true]
    exact ⟨decide_eq_true e0, rfl⟩
  have a1 : inH [(1, 0), (3, 121), (3, 122), (3, 123)] 0 (Cond.initialized (cY 84).cls) = true := by decide +kernel
  have a2 : ((cY 84).cls != "java/lang/invoke/MethodHandle") = true := by decide +kernel
  have a3 : ((cY 84).cls != "java/lang/invoke/VarHandle") = true := by decide +kernel
  have a4 : decide ((parseMethodDescriptor (cY 84).desc).map (fun d => d.parameters.length) = some (cP 84)) = true := by decide +kernel
  have b1 : inH [(1, 0), (3, 121), (3, 122), (3, 123)] 1 (Cond.methodLink (cNm 7) 143 (cY 84)) = true := by decide +kernel
  have b2 : inH [(1, 0), (3, 121), (3, 122), (3, 123)] 2 (Cond.static (cY 84)) = true := by decide +kernel
  have b4 : ((cH 84).isEmpty) = true := rfl
  show ((inH [(1, 0), (3, 121), (3, 122), (3, 123)] 0 (Cond.initialized (cY 84).cls) && ((cY 84).cls != "java/lang/invoke/MethodHandle" && ((cY 84).cls != "java/lang/invoke/VarHandle" && (decide ((parseMethodDescriptor (cY 84).desc).map (fun d => d.parameters.length) = some (cP 84)) && (inH [(1, 0), (3, 121), (3, 122), (3, 123)] 1 (Cond.methodLink (cNm 7) 143 (cY 84)) && inH [(1, 0), (3, 121), (3, 122), (3, 123)] 2 (Cond.static (cY 84)) && inH [(1, 0), (3, 121), (3, 122), (3, 123)] 3 (Cond.code (cY 84) (cB 84) (cN 84) (cR 84)) && (cH 84).isEmpty))))) && true) = true
  rw [a1, a2, a3, a4, b1, b2, e, b4]
  rfl
