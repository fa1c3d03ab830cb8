variable {sc : SC}

/-- what a call of a static method with handlers wants of the tables -/
abbrev zYW (y : MethodName) (b : ByteArray) (nL : Nat) (ret : Option FieldType) (n : Nat) : Prop := Cond.codeWith y b nL ret (zEx y) ∈ zT ∧ Cond.static y ∈ zT ∧ Cond.initialized y.cls ∈ zT ∧ (y.cls ≠ "java/lang/invoke/MethodHandle" ∧ y.cls ≠ "java/lang/invoke/VarHandle" ∧ (parseMethodDescriptor y.desc).map (fun d => d.parameters.length) = some n)
section ZSW
variable {y : MethodName} {cc : ByteArray} {nL : Nat} {ret : Option FieldType} {d mc ms pc : Nat} {ls : List (Option Value)} {st : List Value} {h : List zO} {r : zR} {h' : List zO}
variable {y2 : MethodName} {cc2 : ByteArray} {nL2 : Nat} {ret2 : Option FieldType} {d2 mc2 ms2 : Nat} {av : List Value} {hc hc' : List zO} {stk : List Value} {ρ : Nat → Nat}
theorem zRun.SW {n idx : Nat} {v : Option Value} (hM : zMW sc y2 cc2 nL2 ret2 d2 mc2 ms2 av hc v hc') (hd : decode cc pc = .ok (.invokestatic idx, 3)) (hY : zYW y2 cc2 nL2 ret2 n) (hlk : Cond.methodLink y.cls idx y2 ∈ zT) (hn : av.length = n) (hst : stk = (av.map (zv ρ)).reverse ++ st) (hcat : (st.map fun v => v.category).sum ≤ 8) (hd2 : d2 + 1 ≤ d) (hnL : nL2 ≤ 81) (hρ : ∀ i, ρ (1000000 + i) = 1000000 + i := by first | exact fun _ => rfl | exact fun i => if_neg (by omega)) :
    zRun sc y cc nL ret d pc h stk st y2 cc2 nL2 ret2 d2 mc2 ms2 av hc (.inl v) hc' ρ := by
  intro l p e R s m args below meth cd H locs cells slots D dA aS ad bs la C0 hP hsz hkb h1 h2 h3 h4 hpre
  obtain ⟨q1, q2, q3, q5, q6, q7⟩ := hY
  have hts := C0.2.2.2.2.1
  have hcw : vx_CSW R s args y.cls idx y2 cc2 nL2 ret2 (zEx y2) (Cond.codeWith y2 cc2 nL2 ret2 (zEx y2) :: zT) { frames := d2, cells := mc2, slots := ms2, locals := 100 * d2 } mc2 ms2 n :=
    vx_cwSW n hts (fun w hw => by
      unfold va_wsS at hw
      rcases List.mem_append.mp hw with hw | hw
      · simp only [List.mem_cons, List.not_mem_nil, or_false] at hw
        rcases hw with rfl | rfl | rfl
        · exact ⟨hlk, zgood hlk⟩
        · exact ⟨q2, zgood q2⟩
        · exact ⟨q3, zgood q3⟩
      · rcases List.mem_cons.mp hw with rfl | hw
        · exact ⟨q1, zgood q1⟩
        · exact ⟨hw, zgood hw⟩) rfl rfl rfl ⟨q5, q6, q7⟩ ⟨by show d2 + 1 ≤ R.frames; omega, by show 8 + (nL2 + 11) + 100 * d2 ≤ R.locals; omega⟩
  have hst2 : stk.map (zv ad) = ((av.map (zv (fun i => ad (ρ i)))).reverse ++ st.map (zv ad)) := by
    rw [hst, List.map_append, List.map_reverse, List.map_map]
    have e3 : av.map (zv ad ∘ zv ρ) = av.map (zv (fun i => ad (ρ i))) := List.map_congr_left (fun v _ => zv_zv ad ρ v)
    rw [e3]
  have hrun := vx_runSW (p := p) (e := e) (R := R) (below := below) (meth := meth) (H := H) (locs := locs) (cells := cells) (slots := slots) (c := cd) (g := F0 m pc la (stk.map (zv ad))) ⟨C0.1, C0.2.1, C0.2.2.1, C0.2.2.2.1, hts⟩ (hM l D dA aS (fun i => ad (ρ i)) bs H.size (fun i => by rw [hρ]; exact C0.2.2.2.2.2.2.2.2.1.2 i)) hcw ⟨zPc_blind, fun U hU hW => hpre U hU hW⟩ rfl (by rw [List.length_map]; exact hn) hsz hst2 (by
      have e4 : ((st.map (zv ad)).map fun v => v.category) = st.map fun v => v.category := by
        rw [List.map_map]; exact List.map_congr_left (fun v _ => zv_cat ad v)
      show 2 * 0 + _ ≤ 8
      rw [e4]; omega) hd ⟨h3, h4⟩
  exact fun T hT X => Or.inl (hrun T hT X)
end ZSW
theorem zy_L_truncateInput : zYW yL_truncateInput cL_truncateInput 4 (some .int) 3 := ⟨zmem 755 (by decide +kernel) (by decide +kernel), zmem 754 (by decide +kernel) (by decide +kernel), zini_RL, by decide +kernel, by decide +kernel, by decide +kernel⟩
theorem zy_L_assign : zYW yL_assign cL_assign 6 (some .int) 5 := ⟨zmem 831 (by decide +kernel) (by decide +kernel), zmem 830 (by decide +kernel) (by decide +kernel), zini_RL, by decide +kernel, by decide +kernel, by decide +kernel⟩
theorem zy_L_add : zYW yL_add cL_add 6 (some .int) 5 := ⟨zmem 869 (by decide +kernel) (by decide +kernel), zmem 868 (by decide +kernel) (by decide +kernel), zini_RL, by decide +kernel, by decide +kernel, by decide +kernel⟩
theorem zy_L_negate : zYW yL_negate cL_negate 5 (some .int) 4 := ⟨zmem 894 (by decide +kernel) (by decide +kernel), zmem 893 (by decide +kernel) (by decide +kernel), zini_RL, by decide +kernel, by decide +kernel, by decide +kernel⟩
theorem zy_L_pushDown : zYW yL_pushDown cL_pushDown 4 (some .int) 3 := ⟨zmem 901 (by decide +kernel) (by decide +kernel), zmem 900 (by decide +kernel) (by decide +kernel), zini_RL, by decide +kernel, by decide +kernel, by decide +kernel⟩
theorem zy_L_appendElement : zYW yL_appendElement cL_appendElement 4 (some .int) 3 := ⟨zmem 917 (by decide +kernel) (by decide +kernel), zmem 916 (by decide +kernel) (by decide +kernel), zini_RL, by decide +kernel, by decide +kernel, by decide +kernel⟩
theorem zy_L_removeLast : zYW yL_removeLast cL_removeLast 3 (some .int) 2 := ⟨zmem 926 (by decide +kernel) (by decide +kernel), zmem 925 (by decide +kernel) (by decide +kernel), zini_RL, by decide +kernel, by decide +kernel, by decide +kernel⟩
theorem zy_L_restoreSnapshot : zYW yL_restoreSnapshot cL_restoreSnapshot 3 (some .int) 2 := ⟨zmem 935 (by decide +kernel) (by decide +kernel), zmem 934 (by decide +kernel) (by decide +kernel), zini_RL, by decide +kernel, by decide +kernel, by decide +kernel⟩
theorem zy_L_element : zYW yL_element cL_element 4 (some .int) 3 := ⟨zmem 963 (by decide +kernel) (by decide +kernel), zmem 962 (by decide +kernel) (by decide +kernel), zini_RL, by decide +kernel, by decide +kernel, by decide +kernel⟩
theorem zy_L_sum : zYW yL_sum cL_sum 5 (some .int) 4 := ⟨zmem 970 (by decide +kernel) (by decide +kernel), zmem 969 (by decide +kernel) (by decide +kernel), zini_RL, by decide +kernel, by decide +kernel, by decide +kernel⟩
theorem zy_L_least : zYW yL_least cL_least 5 (some .int) 4 := ⟨zmem 981 (by decide +kernel) (by decide +kernel), zmem 980 (by decide +kernel) (by decide +kernel), zini_RL, by decide +kernel, by decide +kernel, by decide +kernel⟩
theorem zy_L_greatest : zYW yL_greatest cL_greatest 5 (some .int) 4 := ⟨zmem 989 (by decide +kernel) (by decide +kernel), zmem 988 (by decide +kernel) (by decide +kernel), zini_RL, by decide +kernel, by decide +kernel, by decide +kernel⟩
theorem zy_L_firstLeast : zYW yL_firstLeast cL_firstLeast 5 (some .int) 4 := ⟨zmem 997 (by decide +kernel) (by decide +kernel), zmem 996 (by decide +kernel) (by decide +kernel), zini_RL, by decide +kernel, by decide +kernel, by decide +kernel⟩
theorem zy_L_firstGreatest : zYW yL_firstGreatest cL_firstGreatest 5 (some .int) 4 := ⟨zmem 1008 (by decide +kernel) (by decide +kernel), zmem 1007 (by decide +kernel) (by decide +kernel), zini_RL, by decide +kernel, by decide +kernel, by decide +kernel⟩
theorem zy_L_leastCount : zYW yL_leastCount cL_leastCount 5 (some .int) 4 := ⟨zmem 1015 (by decide +kernel) (by decide +kernel), zmem 1014 (by decide +kernel) (by decide +kernel), zini_RL, by decide +kernel, by decide +kernel, by decide +kernel⟩
theorem zy_L_greatestCount : zYW yL_greatestCount cL_greatestCount 5 (some .int) 4 := ⟨zmem 1026 (by decide +kernel) (by decide +kernel), zmem 1025 (by decide +kernel) (by decide +kernel), zini_RL, by decide +kernel, by decide +kernel, by decide +kernel⟩
theorem zy_L_runCount : zYW yL_runCount cL_runCount 5 (some .int) 4 := ⟨zmem 1033 (by decide +kernel) (by decide +kernel), zmem 1032 (by decide +kernel) (by decide +kernel), zini_RL, by decide +kernel, by decide +kernel, by decide +kernel⟩
theorem zy_L_isAscending : zYW yL_isAscending cL_isAscending 5 (some .int) 4 := ⟨zmem 1044 (by decide +kernel) (by decide +kernel), zmem 1043 (by decide +kernel) (by decide +kernel), zini_RL, by decide +kernel, by decide +kernel, by decide +kernel⟩
theorem zy_L_isDescending : zYW yL_isDescending cL_isDescending 5 (some .int) 4 := ⟨zmem 1051 (by decide +kernel) (by decide +kernel), zmem 1050 (by decide +kernel) (by decide +kernel), zini_RL, by decide +kernel, by decide +kernel, by decide +kernel⟩
theorem zy_L_steepestStep : zYW yL_steepestStep cL_steepestStep 5 (some .int) 4 := ⟨zmem 1058 (by decide +kernel) (by decide +kernel), zmem 1057 (by decide +kernel) (by decide +kernel), zini_RL, by decide +kernel, by decide +kernel, by decide +kernel⟩
theorem zy_L_mean : zYW yL_mean cL_mean 5 (some .int) 4 := ⟨zmem 1068 (by decide +kernel) (by decide +kernel), zmem 1067 (by decide +kernel) (by decide +kernel), zini_RL, by decide +kernel, by decide +kernel, by decide +kernel⟩
theorem zy_L_greatestShare : zYW yL_greatestShare cL_greatestShare 5 (some .int) 4 := ⟨zmem 1075 (by decide +kernel) (by decide +kernel), zmem 1074 (by decide +kernel) (by decide +kernel), zini_RL, by decide +kernel, by decide +kernel, by decide +kernel⟩
theorem zy_L_firstAtLeast : zYW yL_firstAtLeast cL_firstAtLeast 5 (some .int) 4 := ⟨zmem 1082 (by decide +kernel) (by decide +kernel), zmem 1081 (by decide +kernel) (by decide +kernel), zini_RL, by decide +kernel, by decide +kernel, by decide +kernel⟩
theorem zy_L_firstBelow : zYW yL_firstBelow cL_firstBelow 5 (some .int) 4 := ⟨zmem 1089 (by decide +kernel) (by decide +kernel), zmem 1088 (by decide +kernel) (by decide +kernel), zini_RL, by decide +kernel, by decide +kernel, by decide +kernel⟩
theorem zy_L_lastAtLeast : zYW yL_lastAtLeast cL_lastAtLeast 5 (some .int) 4 := ⟨zmem 1096 (by decide +kernel) (by decide +kernel), zmem 1095 (by decide +kernel) (by decide +kernel), zini_RL, by decide +kernel, by decide +kernel, by decide +kernel⟩
theorem zy_L_distinctCount : zYW yL_distinctCount cL_distinctCount 5 (some .int) 4 := ⟨zmem 1103 (by decide +kernel) (by decide +kernel), zmem 1102 (by decide +kernel) (by decide +kernel), zini_RL, by decide +kernel, by decide +kernel, by decide +kernel⟩
theorem zy_L_leafOf : zYW yL_leafOf cL_leafOf 4 (some .int) 3 := ⟨zmem 1110 (by decide +kernel) (by decide +kernel), zmem 1109 (by decide +kernel) (by decide +kernel), zini_RL, by decide +kernel, by decide +kernel, by decide +kernel⟩
theorem zy_L_isLeaf : zYW yL_isLeaf cL_isLeaf 4 (some .int) 3 := ⟨zmem 1117 (by decide +kernel) (by decide +kernel), zmem 1116 (by decide +kernel) (by decide +kernel), zini_RL, by decide +kernel, by decide +kernel, by decide +kernel⟩
theorem zy_L_firstIndex : zYW yL_firstIndex cL_firstIndex 4 (some .int) 3 := ⟨zmem 1124 (by decide +kernel) (by decide +kernel), zmem 1123 (by decide +kernel) (by decide +kernel), zini_RL, by decide +kernel, by decide +kernel, by decide +kernel⟩
theorem zy_L_lastIndex : zYW yL_lastIndex cL_lastIndex 4 (some .int) 3 := ⟨zmem 1135 (by decide +kernel) (by decide +kernel), zmem 1134 (by decide +kernel) (by decide +kernel), zini_RL, by decide +kernel, by decide +kernel, by decide +kernel⟩
theorem zy_L_storedSum : zYW yL_storedSum cL_storedSum 4 (some .int) 3 := ⟨zmem 1143 (by decide +kernel) (by decide +kernel), zmem 1142 (by decide +kernel) (by decide +kernel), zini_RL, by decide +kernel, by decide +kernel, by decide +kernel⟩
theorem zy_L_storedLeast : zYW yL_storedLeast cL_storedLeast 4 (some .int) 3 := ⟨zmem 1154 (by decide +kernel) (by decide +kernel), zmem 1153 (by decide +kernel) (by decide +kernel), zini_RL, by decide +kernel, by decide +kernel, by decide +kernel⟩
theorem zy_L_storedGreatest : zYW yL_storedGreatest cL_storedGreatest 4 (some .int) 3 := ⟨zmem 1165 (by decide +kernel) (by decide +kernel), zmem 1164 (by decide +kernel) (by decide +kernel), zini_RL, by decide +kernel, by decide +kernel, by decide +kernel⟩
theorem zy_L_markFactor : zYW yL_markFactor cL_markFactor 4 (some .int) 3 := ⟨zmem 1176 (by decide +kernel) (by decide +kernel), zmem 1175 (by decide +kernel) (by decide +kernel), zini_RL, by decide +kernel, by decide +kernel, by decide +kernel⟩
theorem zy_L_markOffset : zYW yL_markOffset cL_markOffset 4 (some .int) 3 := ⟨zmem 1187 (by decide +kernel) (by decide +kernel), zmem 1186 (by decide +kernel) (by decide +kernel), zini_RL, by decide +kernel, by decide +kernel, by decide +kernel⟩
theorem zy_L_marksAbove : zYW yL_marksAbove cL_marksAbove 4 (some .int) 3 := ⟨zmem 1198 (by decide +kernel) (by decide +kernel), zmem 1197 (by decide +kernel) (by decide +kernel), zini_RL, by decide +kernel, by decide +kernel, by decide +kernel⟩
theorem zy_L_appliedFor : zYW yL_appliedFor cL_appliedFor 5 (some .int) 4 := ⟨zmem 1205 (by decide +kernel) (by decide +kernel), zmem 1204 (by decide +kernel) (by decide +kernel), zini_RL, by decide +kernel, by decide +kernel, by decide +kernel⟩
theorem zy_L_appliedNode : zYW yL_appliedNode cL_appliedNode 6 (some .int) 5 := ⟨zmem 1213 (by decide +kernel) (by decide +kernel), zmem 1212 (by decide +kernel) (by decide +kernel), zini_RL, by decide +kernel, by decide +kernel, by decide +kernel⟩
theorem zy_L_visitedFor : zYW yL_visitedFor cL_visitedFor 5 (some .int) 4 := ⟨zmem 1226 (by decide +kernel) (by decide +kernel), zmem 1225 (by decide +kernel) (by decide +kernel), zini_RL, by decide +kernel, by decide +kernel, by decide +kernel⟩
theorem zy_L_pushesFor : zYW yL_pushesFor cL_pushesFor 5 (some .int) 4 := ⟨zmem 1234 (by decide +kernel) (by decide +kernel), zmem 1233 (by decide +kernel) (by decide +kernel), zini_RL, by decide +kernel, by decide +kernel, by decide +kernel⟩
theorem zy_L_canAdd : zYW yL_canAdd cL_canAdd 6 (some .int) 5 := ⟨zmem 1245 (by decide +kernel) (by decide +kernel), zmem 1244 (by decide +kernel) (by decide +kernel), zini_RL, by decide +kernel, by decide +kernel, by decide +kernel⟩
theorem zy_L_greatestAddition : zYW yL_greatestAddition cL_greatestAddition 5 (some .int) 4 := ⟨zmem 1252 (by decide +kernel) (by decide +kernel), zmem 1251 (by decide +kernel) (by decide +kernel), zini_RL, by decide +kernel, by decide +kernel, by decide +kernel⟩
theorem zy_L_totalIfAssigned : zYW yL_totalIfAssigned cL_totalIfAssigned 6 (some .int) 5 := ⟨zmem 1260 (by decide +kernel) (by decide +kernel), zmem 1259 (by decide +kernel) (by decide +kernel), zini_RL, by decide +kernel, by decide +kernel, by decide +kernel⟩
theorem zy_L_writeRange : zYW yL_writeRange cL_writeRange 5 (some .int) 4 := ⟨zmem 1267 (by decide +kernel) (by decide +kernel), zmem 1266 (by decide +kernel) (by decide +kernel), zini_RL, by decide +kernel, by decide +kernel, by decide +kernel⟩
