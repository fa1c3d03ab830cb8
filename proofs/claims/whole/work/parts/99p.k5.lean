variable {sc : SC}

section LAWC
variable {d mc ms : Nat} {r : zR} {h' : List zO} {i : Nat}
variable {S X R : ZS} {T : TS} {P : ZS} {TU : TS} {q : Nat} {G : Nat → TS} {TN : TS} {fl : Nat → Int64} {fd : Nat → UInt64} {n : Nat} {f : Nat → Int32} {M : ZS} {S' X' R' : ZS} {T' : TS} {P' : ZS} {TU' : TS} {q' : Nat} {G' : Nat → TS} {TN' : TS} {fl' : Nat → Int64} {fd' : Nat → UInt64} {M' : ZS}
theorem l_case48 (hi : i + 6 ≤ n) (hn : n ≤ 3072) (hc : f i &&& 63 = 48) {k : Int32} {d2 mc2 ms2 : Nat} (h2 : d2 + 1 ≤ d) (hmc : mc2 ≤ 1) (hms : ms2 ≤ 6) (hW : zMW (n, f) yL_markOffset cL_markOffset 4 (some .int) d2 mc2 ms2 [.ref 0, .int (f (i + 1)), .ref 115] (WL S X R T P TU q G TN fl) (some (.int k)) (WL S' X' R' T' P' TU' q' G' TN' fl')) {b : Int32} {d3 : Nat} (h3 : d3 + 1 ≤ d) (hm : zM (n, f) yX7_markOffset cX7_markOffset 2 (some .int) d3 0 0 [.ref 0, .int (f (i + 1))] (mh M) (.inl (some (.int b))) (mh M')) (hk : M'.1 15 = k) (hb : k = 0 → fl' 0 = b.toInt64)
    (K : Z (n, f) yL_law cL_law 9 (some .boolean) d mc ms 28 (some (.ref 1000202) :: some (.ref 0) :: some (.ref 117) :: some (.ref 115) :: some (.ref 116) :: some (.int (nI (i + 6))) :: [none, none, none]) [] (LH S' X' R' T' P' TU' q' G' TN' fl' fd n f M') r h') : Z (n, f) yL_law cL_law 9 (some .boolean) d (mc + 1) (ms + 6) 28 (some (.ref 1000202) :: some (.ref 0) :: some (.ref 117) :: some (.ref 115) :: some (.ref 116) :: some (.int (nI (i))) :: [none, none, none]) [] (LH S X R T P TU q G TN fl fd n f M) r h' := by
  refine l_head hi hn ?_
  rw [hc]
  refine z_tabIn (tgt := 2851) dL_law_45 (by decide) (by decide) rfl (by decide) ?_
  refine z_aload_1 dL_law_2851 ?_
  refine l_arg (j := 1) hi hn (by decide) (by decide) dL_law_2852 dL_law_2853 dL_law_2855 dL_law_2856 dL_law_2857 ?_
  refine z_aload_3 dL_law_2858 ?_
  refine Z.more (mc := mc + mc2) (ms := ms + ms2) (by omega) (by omega) ?_
  refine l_wr (st := []) hW dL_law_2859 zy_L_markOffset zm_L_337 rfl (by decide) h2 (by decide) ?_
  refine z_istore_6 dL_law_2862 rfl (by decide) ?_
  refine z_aload_2 dL_law_2864 ?_
  refine l_arg (j := 1) hi hn (by decide) (by decide) dL_law_2865 dL_law_2866 dL_law_2868 dL_law_2869 dL_law_2870 ?_
  refine l_m7 (As := [.int (f (i + 1))]) (st := []) hm dL_law_2871 zy_X7_markOffset zm_L_339 rfl rfl rfl rfl (Nat.le_of_ble_eq_true rfl) h3 (by decide) ?_
  refine z_istore_7 dL_law_2874 rfl (by decide) ?_
  refine l_tailI hk hb (by omega) dL_law_2876 dL_law_2877 dL_law_2880 dL_law_2882 dL_law_2887 dL_law_2889 dL_law_2892 dL_law_2893 dL_law_2894 dL_law_2895 dL_law_2897 dL_law_2898 dL_law_2899 dL_law_2904 (by decide) ?_
  exact l_next K
theorem l_case49 (hi : i + 6 ≤ n) (hn : n ≤ 3072) (hc : f i &&& 63 = 49) {a : Int32} {d2 : Nat} (h2 : d2 + 1 ≤ d) (hX : zM (n, f) yX6_markedNodes cX6_markedNodes 3 (some .int) d2 0 0 [.ref 0] (qh S X R T) (.inl (some (.int a))) (qh S X' R' T)) {b : Int32} {d3 : Nat} (h3 : d3 + 1 ≤ d) (hm : zM (n, f) yX7_markedNodes cX7_markedNodes 3 (some .int) d3 0 0 [.ref 0] (mh M) (.inl (some (.int b))) (mh M')) (hab : a = b)
    (K : Z (n, f) yL_law cL_law 9 (some .boolean) d mc ms 28 (some (.ref 1000202) :: some (.ref 0) :: some (.ref 117) :: some (.ref 115) :: some (.ref 116) :: some (.int (nI (i + 6))) :: [none, none, none]) [] (LH S X' R' T P TU q G TN fl fd n f M') r h') : Z (n, f) yL_law cL_law 9 (some .boolean) d (mc + 1) (ms + 6) 28 (some (.ref 1000202) :: some (.ref 0) :: some (.ref 117) :: some (.ref 115) :: some (.ref 116) :: some (.int (nI (i))) :: [none, none, none]) [] (LH S X R T P TU q G TN fl fd n f M) r h' := by
  refine l_head hi hn ?_
  rw [hc]
  refine z_tabIn (tgt := 2907) dL_law_45 (by decide) (by decide) rfl (by decide) ?_
  refine z_aload_1 dL_law_2907 ?_
  refine Z.more (mc := mc) (ms := ms) (by omega) (by omega) ?_
  refine l_q6 (As := []) (st := []) hX dL_law_2908 zy_X6_markedNodes zm_L_340 rfl rfl (Nat.le_of_ble_eq_true rfl) h2 (by decide) ?_
  refine z_aload_2 dL_law_2911 ?_
  refine l_m7 (As := []) (st := [.int a]) hm dL_law_2912 zy_X7_markedNodes zm_L_343 rfl rfl rfl rfl (Nat.le_of_ble_eq_true rfl) h3 (by decide) ?_
  refine z_icmp_eq_t (tgt := 3639) dL_law_2915 (by decide) hab ?_
  exact l_next K
theorem l_case50 (hi : i + 6 ≤ n) (hn : n ≤ 3072) (hc : f i &&& 63 = 50) {k : Int32} {d2 mc2 ms2 : Nat} (h2 : d2 + 1 ≤ d) (hmc : mc2 ≤ 1) (hms : ms2 ≤ 6) (hW : zMW (n, f) yL_marksAbove cL_marksAbove 4 (some .int) d2 mc2 ms2 [.ref 0, .int (f (i + 1)), .ref 115] (WL S X R T P TU q G TN fl) (some (.int k)) (WL S' X' R' T' P' TU' q' G' TN' fl')) {b : Int32} {d3 : Nat} (h3 : d3 + 1 ≤ d) (hm : zM (n, f) yX7_marksAbove cX7_marksAbove 4 (some .int) d3 0 0 [.ref 0, .int (f (i + 1))] (mh M) (.inl (some (.int b))) (mh M')) (hk : M'.1 15 = k) (hb : k = 0 → fl' 0 = b.toInt64)
    (K : Z (n, f) yL_law cL_law 9 (some .boolean) d mc ms 28 (some (.ref 1000202) :: some (.ref 0) :: some (.ref 117) :: some (.ref 115) :: some (.ref 116) :: some (.int (nI (i + 6))) :: [none, none, none]) [] (LH S' X' R' T' P' TU' q' G' TN' fl' fd n f M') r h') : Z (n, f) yL_law cL_law 9 (some .boolean) d (mc + 1) (ms + 6) 28 (some (.ref 1000202) :: some (.ref 0) :: some (.ref 117) :: some (.ref 115) :: some (.ref 116) :: some (.int (nI (i))) :: [none, none, none]) [] (LH S X R T P TU q G TN fl fd n f M) r h' := by
  refine l_head hi hn ?_
  rw [hc]
  refine z_tabIn (tgt := 2920) dL_law_45 (by decide) (by decide) rfl (by decide) ?_
  refine z_aload_1 dL_law_2920 ?_
  refine l_arg (j := 1) hi hn (by decide) (by decide) dL_law_2921 dL_law_2922 dL_law_2924 dL_law_2925 dL_law_2926 ?_
  refine z_aload_3 dL_law_2927 ?_
  refine Z.more (mc := mc + mc2) (ms := ms + ms2) (by omega) (by omega) ?_
  refine l_wr (st := []) hW dL_law_2928 zy_L_marksAbove zm_L_344 rfl (by decide) h2 (by decide) ?_
  refine z_istore_6 dL_law_2931 rfl (by decide) ?_
  refine z_aload_2 dL_law_2933 ?_
  refine l_arg (j := 1) hi hn (by decide) (by decide) dL_law_2934 dL_law_2935 dL_law_2937 dL_law_2938 dL_law_2939 ?_
  refine l_m7 (As := [.int (f (i + 1))]) (st := []) hm dL_law_2940 zy_X7_marksAbove zm_L_346 rfl rfl rfl rfl (Nat.le_of_ble_eq_true rfl) h3 (by decide) ?_
  refine z_istore_7 dL_law_2943 rfl (by decide) ?_
  refine l_tailI hk hb (by omega) dL_law_2945 dL_law_2946 dL_law_2949 dL_law_2951 dL_law_2956 dL_law_2958 dL_law_2961 dL_law_2962 dL_law_2963 dL_law_2964 dL_law_2966 dL_law_2967 dL_law_2968 dL_law_2973 (by decide) ?_
  exact l_next K
theorem l_case51 (hi : i + 6 ≤ n) (hn : n ≤ 3072) (hc : f i &&& 63 = 51) {k : Int32} {d2 mc2 ms2 : Nat} (h2 : d2 + 1 ≤ d) (hmc : mc2 ≤ 1) (hms : ms2 ≤ 6) (hW : zMW (n, f) yL_appliedFor cL_appliedFor 5 (some .int) d2 mc2 ms2 [.ref 0, .int (f (i + 1)), .int (f (i + 2)), .ref 115] (WL S X R T P TU q G TN fl) (some (.int k)) (WL S' X' R' T' P' TU' q' G' TN' fl')) {b : Int32} {d3 : Nat} (h3 : d3 + 1 ≤ d) (hm : zM (n, f) yX7_appliedFor cX7_appliedFor 3 (some .int) d3 0 0 [.ref 0, .int (f (i + 1)), .int (f (i + 2))] (mh M) (.inl (some (.int b))) (mh M')) (hk : M'.1 15 = k) (hb : k = 0 → fl' 0 = b.toInt64)
    (K : Z (n, f) yL_law cL_law 9 (some .boolean) d mc ms 28 (some (.ref 1000202) :: some (.ref 0) :: some (.ref 117) :: some (.ref 115) :: some (.ref 116) :: some (.int (nI (i + 6))) :: [none, none, none]) [] (LH S' X' R' T' P' TU' q' G' TN' fl' fd n f M') r h') : Z (n, f) yL_law cL_law 9 (some .boolean) d (mc + 1) (ms + 6) 28 (some (.ref 1000202) :: some (.ref 0) :: some (.ref 117) :: some (.ref 115) :: some (.ref 116) :: some (.int (nI (i))) :: [none, none, none]) [] (LH S X R T P TU q G TN fl fd n f M) r h' := by
  refine l_head hi hn ?_
  rw [hc]
  refine z_tabIn (tgt := 2976) dL_law_45 (by decide) (by decide) rfl (by decide) ?_
  refine z_aload_1 dL_law_2976 ?_
  refine l_arg (j := 1) hi hn (by decide) (by decide) dL_law_2977 dL_law_2978 dL_law_2980 dL_law_2981 dL_law_2982 ?_
  refine l_arg (j := 2) hi hn (by decide) (by decide) dL_law_2983 dL_law_2984 dL_law_2986 dL_law_2987 dL_law_2988 ?_
  refine z_aload_3 dL_law_2989 ?_
  refine Z.more (mc := mc + mc2) (ms := ms + ms2) (by omega) (by omega) ?_
  refine l_wr (st := []) hW dL_law_2990 zy_L_appliedFor zm_L_347 rfl (by decide) h2 (by decide) ?_
  refine z_istore_6 dL_law_2993 rfl (by decide) ?_
  refine z_aload_2 dL_law_2995 ?_
  refine l_arg (j := 1) hi hn (by decide) (by decide) dL_law_2996 dL_law_2997 dL_law_2999 dL_law_3000 dL_law_3001 ?_
  refine l_arg (j := 2) hi hn (by decide) (by decide) dL_law_3002 dL_law_3003 dL_law_3005 dL_law_3006 dL_law_3007 ?_
  refine l_m7 (As := [.int (f (i + 1)), .int (f (i + 2))]) (st := []) hm dL_law_3008 zy_X7_appliedFor zm_L_349 rfl rfl rfl rfl (Nat.le_of_ble_eq_true rfl) h3 (by decide) ?_
  refine z_istore_7 dL_law_3011 rfl (by decide) ?_
  refine l_tailI hk hb (by omega) dL_law_3013 dL_law_3014 dL_law_3017 dL_law_3019 dL_law_3024 dL_law_3026 dL_law_3029 dL_law_3030 dL_law_3031 dL_law_3032 dL_law_3034 dL_law_3035 dL_law_3036 dL_law_3041 (by decide) ?_
  exact l_next K
theorem l_case52 (hi : i + 6 ≤ n) (hn : n ≤ 3072) (hc : f i &&& 63 = 52) {k : Int32} {d2 mc2 ms2 : Nat} (h2 : d2 + 1 ≤ d) (hmc : mc2 ≤ 1) (hms : ms2 ≤ 6) (hW : zMW (n, f) yL_appliedNode cL_appliedNode 6 (some .int) d2 mc2 ms2 [.ref 0, .int (f (i + 1)), .int (f (i + 2)), .int (f (i + 3)), .ref 115] (WL S X R T P TU q G TN fl) (some (.int k)) (WL S' X' R' T' P' TU' q' G' TN' fl')) {b : Int32} {d3 : Nat} (h3 : d3 + 1 ≤ d) (hm : zM (n, f) yX7_appliedNode cX7_appliedNode 4 (some .int) d3 0 0 [.ref 0, .int (f (i + 1)), .int (f (i + 2)), .int (f (i + 3))] (mh M) (.inl (some (.int b))) (mh M')) (hk : M'.1 15 = k) (hb : k = 0 → fl' 0 = b.toInt64)
    (K : Z (n, f) yL_law cL_law 9 (some .boolean) d mc ms 28 (some (.ref 1000202) :: some (.ref 0) :: some (.ref 117) :: some (.ref 115) :: some (.ref 116) :: some (.int (nI (i + 6))) :: [none, none, none]) [] (LH S' X' R' T' P' TU' q' G' TN' fl' fd n f M') r h') : Z (n, f) yL_law cL_law 9 (some .boolean) d (mc + 1) (ms + 6) 28 (some (.ref 1000202) :: some (.ref 0) :: some (.ref 117) :: some (.ref 115) :: some (.ref 116) :: some (.int (nI (i))) :: [none, none, none]) [] (LH S X R T P TU q G TN fl fd n f M) r h' := by
  refine l_head hi hn ?_
  rw [hc]
  refine z_tabIn (tgt := 3044) dL_law_45 (by decide) (by decide) rfl (by decide) ?_
  refine z_aload_1 dL_law_3044 ?_
  refine l_arg (j := 1) hi hn (by decide) (by decide) dL_law_3045 dL_law_3046 dL_law_3048 dL_law_3049 dL_law_3050 ?_
  refine l_arg (j := 2) hi hn (by decide) (by decide) dL_law_3051 dL_law_3052 dL_law_3054 dL_law_3055 dL_law_3056 ?_
  refine l_arg (j := 3) hi hn (by decide) (by decide) dL_law_3057 dL_law_3058 dL_law_3060 dL_law_3061 dL_law_3062 ?_
  refine z_aload_3 dL_law_3063 ?_
  refine Z.more (mc := mc + mc2) (ms := ms + ms2) (by omega) (by omega) ?_
  refine l_wr (st := []) hW dL_law_3064 zy_L_appliedNode zm_L_350 rfl (by decide) h2 (by decide) ?_
  refine z_istore_6 dL_law_3067 rfl (by decide) ?_
  refine z_aload_2 dL_law_3069 ?_
  refine l_arg (j := 1) hi hn (by decide) (by decide) dL_law_3070 dL_law_3071 dL_law_3073 dL_law_3074 dL_law_3075 ?_
  refine l_arg (j := 2) hi hn (by decide) (by decide) dL_law_3076 dL_law_3077 dL_law_3079 dL_law_3080 dL_law_3081 ?_
  refine l_arg (j := 3) hi hn (by decide) (by decide) dL_law_3082 dL_law_3083 dL_law_3085 dL_law_3086 dL_law_3087 ?_
  refine l_m7 (As := [.int (f (i + 1)), .int (f (i + 2)), .int (f (i + 3))]) (st := []) hm dL_law_3088 zy_X7_appliedNode zm_L_352 rfl rfl rfl rfl (Nat.le_of_ble_eq_true rfl) h3 (by decide) ?_
  refine z_istore_7 dL_law_3091 rfl (by decide) ?_
  refine l_tailI hk hb (by omega) dL_law_3093 dL_law_3094 dL_law_3097 dL_law_3099 dL_law_3104 dL_law_3106 dL_law_3109 dL_law_3110 dL_law_3111 dL_law_3112 dL_law_3114 dL_law_3115 dL_law_3116 dL_law_3121 (by decide) ?_
  exact l_next K
theorem l_case53 (hi : i + 6 ≤ n) (hn : n ≤ 3072) (hc : f i &&& 63 = 53) {k : Int32} {d2 mc2 ms2 : Nat} (h2 : d2 + 1 ≤ d) (hmc : mc2 ≤ 1) (hms : ms2 ≤ 6) (hW : zMW (n, f) yL_visitedFor cL_visitedFor 5 (some .int) d2 mc2 ms2 [.ref 0, .int (f (i + 1)), .int (f (i + 2)), .ref 115] (WL S X R T P TU q G TN fl) (some (.int k)) (WL S' X' R' T' P' TU' q' G' TN' fl')) {b : Int32} {d3 : Nat} (h3 : d3 + 1 ≤ d) (hm : zM (n, f) yX7_visitedFor cX7_visitedFor 3 (some .int) d3 0 0 [.ref 0, .int (f (i + 1)), .int (f (i + 2))] (mh M) (.inl (some (.int b))) (mh M')) (hk : M'.1 15 = k) (hb : k = 0 → fl' 0 = b.toInt64)
    (K : Z (n, f) yL_law cL_law 9 (some .boolean) d mc ms 28 (some (.ref 1000202) :: some (.ref 0) :: some (.ref 117) :: some (.ref 115) :: some (.ref 116) :: some (.int (nI (i + 6))) :: [none, none, none]) [] (LH S' X' R' T' P' TU' q' G' TN' fl' fd n f M') r h') : Z (n, f) yL_law cL_law 9 (some .boolean) d (mc + 1) (ms + 6) 28 (some (.ref 1000202) :: some (.ref 0) :: some (.ref 117) :: some (.ref 115) :: some (.ref 116) :: some (.int (nI (i))) :: [none, none, none]) [] (LH S X R T P TU q G TN fl fd n f M) r h' := by
  refine l_head hi hn ?_
  rw [hc]
  refine z_tabIn (tgt := 3124) dL_law_45 (by decide) (by decide) rfl (by decide) ?_
  refine z_aload_1 dL_law_3124 ?_
  refine l_arg (j := 1) hi hn (by decide) (by decide) dL_law_3125 dL_law_3126 dL_law_3128 dL_law_3129 dL_law_3130 ?_
  refine l_arg (j := 2) hi hn (by decide) (by decide) dL_law_3131 dL_law_3132 dL_law_3134 dL_law_3135 dL_law_3136 ?_
  refine z_aload_3 dL_law_3137 ?_
  refine Z.more (mc := mc + mc2) (ms := ms + ms2) (by omega) (by omega) ?_
  refine l_wr (st := []) hW dL_law_3138 zy_L_visitedFor zm_L_353 rfl (by decide) h2 (by decide) ?_
  refine z_istore_6 dL_law_3141 rfl (by decide) ?_
  refine z_aload_2 dL_law_3143 ?_
  refine l_arg (j := 1) hi hn (by decide) (by decide) dL_law_3144 dL_law_3145 dL_law_3147 dL_law_3148 dL_law_3149 ?_
  refine l_arg (j := 2) hi hn (by decide) (by decide) dL_law_3150 dL_law_3151 dL_law_3153 dL_law_3154 dL_law_3155 ?_
  refine l_m7 (As := [.int (f (i + 1)), .int (f (i + 2))]) (st := []) hm dL_law_3156 zy_X7_visitedFor zm_L_355 rfl rfl rfl rfl (Nat.le_of_ble_eq_true rfl) h3 (by decide) ?_
  refine z_istore_7 dL_law_3159 rfl (by decide) ?_
  refine l_tailI hk hb (by omega) dL_law_3161 dL_law_3162 dL_law_3165 dL_law_3167 dL_law_3172 dL_law_3174 dL_law_3177 dL_law_3178 dL_law_3179 dL_law_3180 dL_law_3182 dL_law_3183 dL_law_3184 dL_law_3189 (by decide) ?_
  exact l_next K
theorem l_case54 (hi : i + 6 ≤ n) (hn : n ≤ 3072) (hc : f i &&& 63 = 54) {k : Int32} {d2 mc2 ms2 : Nat} (h2 : d2 + 1 ≤ d) (hmc : mc2 ≤ 1) (hms : ms2 ≤ 6) (hW : zMW (n, f) yL_pushesFor cL_pushesFor 5 (some .int) d2 mc2 ms2 [.ref 0, .int (f (i + 1)), .int (f (i + 2)), .ref 115] (WL S X R T P TU q G TN fl) (some (.int k)) (WL S' X' R' T' P' TU' q' G' TN' fl')) {b : Int32} {d3 : Nat} (h3 : d3 + 1 ≤ d) (hm : zM (n, f) yX7_pushesFor cX7_pushesFor 3 (some .int) d3 0 0 [.ref 0, .int (f (i + 1)), .int (f (i + 2))] (mh M) (.inl (some (.int b))) (mh M')) (hk : M'.1 15 = k) (hb : k = 0 → fl' 0 = b.toInt64)
    (K : Z (n, f) yL_law cL_law 9 (some .boolean) d mc ms 28 (some (.ref 1000202) :: some (.ref 0) :: some (.ref 117) :: some (.ref 115) :: some (.ref 116) :: some (.int (nI (i + 6))) :: [none, none, none]) [] (LH S' X' R' T' P' TU' q' G' TN' fl' fd n f M') r h') : Z (n, f) yL_law cL_law 9 (some .boolean) d (mc + 1) (ms + 6) 28 (some (.ref 1000202) :: some (.ref 0) :: some (.ref 117) :: some (.ref 115) :: some (.ref 116) :: some (.int (nI (i))) :: [none, none, none]) [] (LH S X R T P TU q G TN fl fd n f M) r h' := by
  refine l_head hi hn ?_
  rw [hc]
  refine z_tabIn (tgt := 3192) dL_law_45 (by decide) (by decide) rfl (by decide) ?_
  refine z_aload_1 dL_law_3192 ?_
  refine l_arg (j := 1) hi hn (by decide) (by decide) dL_law_3193 dL_law_3194 dL_law_3196 dL_law_3197 dL_law_3198 ?_
  refine l_arg (j := 2) hi hn (by decide) (by decide) dL_law_3199 dL_law_3200 dL_law_3202 dL_law_3203 dL_law_3204 ?_
  refine z_aload_3 dL_law_3205 ?_
  refine Z.more (mc := mc + mc2) (ms := ms + ms2) (by omega) (by omega) ?_
  refine l_wr (st := []) hW dL_law_3206 zy_L_pushesFor zm_L_356 rfl (by decide) h2 (by decide) ?_
  refine z_istore_6 dL_law_3209 rfl (by decide) ?_
  refine z_aload_2 dL_law_3211 ?_
  refine l_arg (j := 1) hi hn (by decide) (by decide) dL_law_3212 dL_law_3213 dL_law_3215 dL_law_3216 dL_law_3217 ?_
  refine l_arg (j := 2) hi hn (by decide) (by decide) dL_law_3218 dL_law_3219 dL_law_3221 dL_law_3222 dL_law_3223 ?_
  refine l_m7 (As := [.int (f (i + 1)), .int (f (i + 2))]) (st := []) hm dL_law_3224 zy_X7_pushesFor zm_L_358 rfl rfl rfl rfl (Nat.le_of_ble_eq_true rfl) h3 (by decide) ?_
  refine z_istore_7 dL_law_3227 rfl (by decide) ?_
  refine l_tailI hk hb (by omega) dL_law_3229 dL_law_3230 dL_law_3233 dL_law_3235 dL_law_3240 dL_law_3242 dL_law_3245 dL_law_3246 dL_law_3247 dL_law_3248 dL_law_3250 dL_law_3251 dL_law_3252 dL_law_3257 (by decide) ?_
  exact l_next K
theorem l_case55 (hi : i + 6 ≤ n) (hn : n ≤ 3072) (hc : f i &&& 63 = 55) {k : Int32} {d2 mc2 ms2 : Nat} (h2 : d2 + 1 ≤ d) (hmc : mc2 ≤ 1) (hms : ms2 ≤ 6) (hW : zMW (n, f) yL_canAdd cL_canAdd 6 (some .int) d2 mc2 ms2 [.ref 0, .int (f (i + 1)), .int (f (i + 2)), .int (f (i + 3)), .ref 115] (WL S X R T P TU q G TN fl) (some (.int k)) (WL S' X' R' T' P' TU' q' G' TN' fl')) {b : Bool} {d3 : Nat} (h3 : d3 + 1 ≤ d) (hm : zM (n, f) yX7_canAdd cX7_canAdd 4 (some .boolean) d3 0 0 [.ref 0, .int (f (i + 1)), .int (f (i + 2)), .int (f (i + 3))] (mh M) (.inl (some (.int (zb b)))) (mh M')) (hk : M'.1 15 = k) (hb : k = 0 → fl' 0 = if b = true then 1 else 0)
    (K : Z (n, f) yL_law cL_law 9 (some .boolean) d mc ms 28 (some (.ref 1000202) :: some (.ref 0) :: some (.ref 117) :: some (.ref 115) :: some (.ref 116) :: some (.int (nI (i + 6))) :: [none, none, none]) [] (LH S' X' R' T' P' TU' q' G' TN' fl' fd n f M') r h') : Z (n, f) yL_law cL_law 9 (some .boolean) d (mc + 1) (ms + 6) 28 (some (.ref 1000202) :: some (.ref 0) :: some (.ref 117) :: some (.ref 115) :: some (.ref 116) :: some (.int (nI (i))) :: [none, none, none]) [] (LH S X R T P TU q G TN fl fd n f M) r h' := by
  refine l_head hi hn ?_
  rw [hc]
  refine z_tabIn (tgt := 3260) dL_law_45 (by decide) (by decide) rfl (by decide) ?_
  refine z_aload_1 dL_law_3260 ?_
  refine l_arg (j := 1) hi hn (by decide) (by decide) dL_law_3261 dL_law_3262 dL_law_3264 dL_law_3265 dL_law_3266 ?_
  refine l_arg (j := 2) hi hn (by decide) (by decide) dL_law_3267 dL_law_3268 dL_law_3270 dL_law_3271 dL_law_3272 ?_
  refine l_arg (j := 3) hi hn (by decide) (by decide) dL_law_3273 dL_law_3274 dL_law_3276 dL_law_3277 dL_law_3278 ?_
  refine z_aload_3 dL_law_3279 ?_
  refine Z.more (mc := mc + mc2) (ms := ms + ms2) (by omega) (by omega) ?_
  refine l_wr (st := []) hW dL_law_3280 zy_L_canAdd zm_L_359 rfl (by decide) h2 (by decide) ?_
  refine z_istore_6 dL_law_3283 rfl (by decide) ?_
  refine z_aload_2 dL_law_3285 ?_
  refine l_arg (j := 1) hi hn (by decide) (by decide) dL_law_3286 dL_law_3287 dL_law_3289 dL_law_3290 dL_law_3291 ?_
  refine l_arg (j := 2) hi hn (by decide) (by decide) dL_law_3292 dL_law_3293 dL_law_3295 dL_law_3296 dL_law_3297 ?_
  refine l_arg (j := 3) hi hn (by decide) (by decide) dL_law_3298 dL_law_3299 dL_law_3301 dL_law_3302 dL_law_3303 ?_
  refine l_m7 (As := [.int (f (i + 1)), .int (f (i + 2)), .int (f (i + 3))]) (st := []) hm dL_law_3304 zy_X7_canAdd zm_L_361 rfl rfl rfl rfl (Nat.le_of_ble_eq_true rfl) h3 (by decide) ?_
  refine z_istore_7 dL_law_3307 rfl (by decide) ?_
  refine l_tailB hk hb (by omega) dL_law_3309 dL_law_3310 dL_law_3313 dL_law_3315 dL_law_3320 dL_law_3322 dL_law_3325 dL_law_3326 dL_law_3327 dL_law_3328 dL_law_3330 dL_law_3333 dL_law_3334 dL_law_3337 dL_law_3338 dL_law_3339 dL_law_3344 (by decide) ?_
  exact l_next K
theorem l_case56 (hi : i + 6 ≤ n) (hn : n ≤ 3072) (hc : f i &&& 63 = 56) {k : Int32} {d2 mc2 ms2 : Nat} (h2 : d2 + 1 ≤ d) (hmc : mc2 ≤ 1) (hms : ms2 ≤ 6) (hW : zMW (n, f) yL_greatestAddition cL_greatestAddition 5 (some .int) d2 mc2 ms2 [.ref 0, .int (f (i + 1)), .int (f (i + 2)), .ref 115] (WL S X R T P TU q G TN fl) (some (.int k)) (WL S' X' R' T' P' TU' q' G' TN' fl')) {b : Int32} {d3 : Nat} (h3 : d3 + 1 ≤ d) (hm : zM (n, f) yX7_greatestAddition cX7_greatestAddition 3 (some .int) d3 0 0 [.ref 0, .int (f (i + 1)), .int (f (i + 2))] (mh M) (.inl (some (.int b))) (mh M')) (hk : M'.1 15 = k) (hb : k = 0 → fl' 0 = b.toInt64)
    (K : Z (n, f) yL_law cL_law 9 (some .boolean) d mc ms 28 (some (.ref 1000202) :: some (.ref 0) :: some (.ref 117) :: some (.ref 115) :: some (.ref 116) :: some (.int (nI (i + 6))) :: [none, none, none]) [] (LH S' X' R' T' P' TU' q' G' TN' fl' fd n f M') r h') : Z (n, f) yL_law cL_law 9 (some .boolean) d (mc + 1) (ms + 6) 28 (some (.ref 1000202) :: some (.ref 0) :: some (.ref 117) :: some (.ref 115) :: some (.ref 116) :: some (.int (nI (i))) :: [none, none, none]) [] (LH S X R T P TU q G TN fl fd n f M) r h' := by
  refine l_head hi hn ?_
  rw [hc]
  refine z_tabIn (tgt := 3347) dL_law_45 (by decide) (by decide) rfl (by decide) ?_
  refine z_aload_1 dL_law_3347 ?_
  refine l_arg (j := 1) hi hn (by decide) (by decide) dL_law_3348 dL_law_3349 dL_law_3351 dL_law_3352 dL_law_3353 ?_
  refine l_arg (j := 2) hi hn (by decide) (by decide) dL_law_3354 dL_law_3355 dL_law_3357 dL_law_3358 dL_law_3359 ?_
  refine z_aload_3 dL_law_3360 ?_
  refine Z.more (mc := mc + mc2) (ms := ms + ms2) (by omega) (by omega) ?_
  refine l_wr (st := []) hW dL_law_3361 zy_L_greatestAddition zm_L_362 rfl (by decide) h2 (by decide) ?_
  refine z_istore_6 dL_law_3364 rfl (by decide) ?_
  refine z_aload_2 dL_law_3366 ?_
  refine l_arg (j := 1) hi hn (by decide) (by decide) dL_law_3367 dL_law_3368 dL_law_3370 dL_law_3371 dL_law_3372 ?_
  refine l_arg (j := 2) hi hn (by decide) (by decide) dL_law_3373 dL_law_3374 dL_law_3376 dL_law_3377 dL_law_3378 ?_
  refine l_m7 (As := [.int (f (i + 1)), .int (f (i + 2))]) (st := []) hm dL_law_3379 zy_X7_greatestAddition zm_L_364 rfl rfl rfl rfl (Nat.le_of_ble_eq_true rfl) h3 (by decide) ?_
  refine z_istore_7 dL_law_3382 rfl (by decide) ?_
  refine l_tailI hk hb (by omega) dL_law_3384 dL_law_3385 dL_law_3388 dL_law_3390 dL_law_3395 dL_law_3397 dL_law_3400 dL_law_3401 dL_law_3402 dL_law_3403 dL_law_3405 dL_law_3406 dL_law_3407 dL_law_3412 (by decide) ?_
  exact l_next K
theorem l_case57 (hi : i + 6 ≤ n) (hn : n ≤ 3072) (hc : f i &&& 63 = 57) {k : Int32} {d2 mc2 ms2 : Nat} (h2 : d2 + 1 ≤ d) (hmc : mc2 ≤ 1) (hms : ms2 ≤ 6) (hW : zMW (n, f) yL_totalIfAssigned cL_totalIfAssigned 6 (some .int) d2 mc2 ms2 [.ref 0, .int (f (i + 1)), .int (f (i + 2)), .int (f (i + 3)), .ref 115] (WL S X R T P TU q G TN fl) (some (.int k)) (WL S' X' R' T' P' TU' q' G' TN' fl')) {b : Int64} {d3 : Nat} (h3 : d3 + 1 ≤ d) (hm : zM (n, f) yX7_totalIfAssigned cX7_totalIfAssigned 4 (some .long) d3 0 0 [.ref 0, .int (f (i + 1)), .int (f (i + 2)), .int (f (i + 3))] (mh M) (.inl (some (.long b))) (mh M')) (hk : M'.1 15 = k) (hb : k = 0 → fl' 0 = b)
    (K : Z (n, f) yL_law cL_law 9 (some .boolean) d mc ms 28 (some (.ref 1000202) :: some (.ref 0) :: some (.ref 117) :: some (.ref 115) :: some (.ref 116) :: some (.int (nI (i + 6))) :: [none, none, none]) [] (LH S' X' R' T' P' TU' q' G' TN' fl' fd n f M') r h') : Z (n, f) yL_law cL_law 9 (some .boolean) d (mc + 1) (ms + 6) 28 (some (.ref 1000202) :: some (.ref 0) :: some (.ref 117) :: some (.ref 115) :: some (.ref 116) :: some (.int (nI (i))) :: [none, none, none]) [] (LH S X R T P TU q G TN fl fd n f M) r h' := by
  refine l_head hi hn ?_
  rw [hc]
  refine z_tabIn (tgt := 3415) dL_law_45 (by decide) (by decide) rfl (by decide) ?_
  refine z_aload_1 dL_law_3415 ?_
  refine l_arg (j := 1) hi hn (by decide) (by decide) dL_law_3416 dL_law_3417 dL_law_3419 dL_law_3420 dL_law_3421 ?_
  refine l_arg (j := 2) hi hn (by decide) (by decide) dL_law_3422 dL_law_3423 dL_law_3425 dL_law_3426 dL_law_3427 ?_
  refine l_arg (j := 3) hi hn (by decide) (by decide) dL_law_3428 dL_law_3429 dL_law_3431 dL_law_3432 dL_law_3433 ?_
  refine z_aload_3 dL_law_3434 ?_
  refine Z.more (mc := mc + mc2) (ms := ms + ms2) (by omega) (by omega) ?_
  refine l_wr (st := []) hW dL_law_3435 zy_L_totalIfAssigned zm_L_365 rfl (by decide) h2 (by decide) ?_
  refine z_istore_6 dL_law_3438 rfl (by decide) ?_
  refine z_aload_2 dL_law_3440 ?_
  refine l_arg (j := 1) hi hn (by decide) (by decide) dL_law_3441 dL_law_3442 dL_law_3444 dL_law_3445 dL_law_3446 ?_
  refine l_arg (j := 2) hi hn (by decide) (by decide) dL_law_3447 dL_law_3448 dL_law_3450 dL_law_3451 dL_law_3452 ?_
  refine l_arg (j := 3) hi hn (by decide) (by decide) dL_law_3453 dL_law_3454 dL_law_3456 dL_law_3457 dL_law_3458 ?_
  refine l_m7 (As := [.int (f (i + 1)), .int (f (i + 2)), .int (f (i + 3))]) (st := []) hm dL_law_3459 zy_X7_totalIfAssigned zm_L_367 rfl rfl rfl rfl (Nat.le_of_ble_eq_true rfl) h3 (by decide) ?_
  refine z_lstore_7 dL_law_3462 rfl (by decide) ?_
  refine l_tailL hk hb (by omega) dL_law_3464 dL_law_3465 dL_law_3468 dL_law_3470 dL_law_3475 dL_law_3477 dL_law_3480 dL_law_3481 dL_law_3482 dL_law_3483 dL_law_3485 dL_law_3486 dL_law_3491 (by decide) ?_
  exact l_next K
theorem l_case58 (hi : i + 6 ≤ n) (hn : n ≤ 3072) (hc : f i &&& 63 = 58) {a : Int32} {d2 : Nat} (h2 : d2 + 1 ≤ d) (hX : zM (n, f) yX6_updateCount cX6_updateCount 1 (some .int) d2 0 0 [.ref 0] (qh S X R T) (.inl (some (.int a))) (qh S X' R' T)) {b : Int32} {d3 : Nat} (h3 : d3 + 1 ≤ d) (hm : zM (n, f) yX7_updateCount cX7_updateCount 1 (some .int) d3 0 0 [.ref 0] (mh M) (.inl (some (.int b))) (mh M')) (hab : a = b)
    (K : Z (n, f) yL_law cL_law 9 (some .boolean) d mc ms 28 (some (.ref 1000202) :: some (.ref 0) :: some (.ref 117) :: some (.ref 115) :: some (.ref 116) :: some (.int (nI (i + 6))) :: [none, none, none]) [] (LH S X' R' T P TU q G TN fl fd n f M') r h') : Z (n, f) yL_law cL_law 9 (some .boolean) d (mc + 1) (ms + 6) 28 (some (.ref 1000202) :: some (.ref 0) :: some (.ref 117) :: some (.ref 115) :: some (.ref 116) :: some (.int (nI (i))) :: [none, none, none]) [] (LH S X R T P TU q G TN fl fd n f M) r h' := by
  refine l_head hi hn ?_
  rw [hc]
  refine z_tabIn (tgt := 3494) dL_law_45 (by decide) (by decide) rfl (by decide) ?_
  refine z_aload_1 dL_law_3494 ?_
  refine Z.more (mc := mc) (ms := ms) (by omega) (by omega) ?_
  refine l_q6 (As := []) (st := []) hX dL_law_3495 zy_X6_updateCount zm_L_368 rfl rfl (Nat.le_of_ble_eq_true rfl) h2 (by decide) ?_
  refine z_aload_2 dL_law_3498 ?_
  refine l_m7 (As := []) (st := [.int a]) hm dL_law_3499 zy_X7_updateCount zm_L_371 rfl rfl rfl rfl (Nat.le_of_ble_eq_true rfl) h3 (by decide) ?_
  refine z_icmp_eq_t (tgt := 3639) dL_law_3502 (by decide) hab ?_
  exact l_next K
theorem l_case59 (hi : i + 6 ≤ n) (hn : n ≤ 3072) (hc : f i &&& 63 = 59) {a : Int32} {d2 : Nat} (h2 : d2 + 1 ≤ d) (hX : zM (n, f) yX6_pushCount cX6_pushCount 1 (some .int) d2 0 0 [.ref 0] (qh S X R T) (.inl (some (.int a))) (qh S X' R' T)) {b : Int32} {d3 : Nat} (h3 : d3 + 1 ≤ d) (hm : zM (n, f) yX7_pushCount cX7_pushCount 1 (some .int) d3 0 0 [.ref 0] (mh M) (.inl (some (.int b))) (mh M')) (hab : a = b)
    (K : Z (n, f) yL_law cL_law 9 (some .boolean) d mc ms 28 (some (.ref 1000202) :: some (.ref 0) :: some (.ref 117) :: some (.ref 115) :: some (.ref 116) :: some (.int (nI (i + 6))) :: [none, none, none]) [] (LH S X' R' T P TU q G TN fl fd n f M') r h') : Z (n, f) yL_law cL_law 9 (some .boolean) d (mc + 1) (ms + 6) 28 (some (.ref 1000202) :: some (.ref 0) :: some (.ref 117) :: some (.ref 115) :: some (.ref 116) :: some (.int (nI (i))) :: [none, none, none]) [] (LH S X R T P TU q G TN fl fd n f M) r h' := by
  refine l_head hi hn ?_
  rw [hc]
  refine z_tabIn (tgt := 3507) dL_law_45 (by decide) (by decide) rfl (by decide) ?_
  refine z_aload_1 dL_law_3507 ?_
  refine Z.more (mc := mc) (ms := ms) (by omega) (by omega) ?_
  refine l_q6 (As := []) (st := []) hX dL_law_3508 zy_X6_pushCount zm_L_372 rfl rfl (Nat.le_of_ble_eq_true rfl) h2 (by decide) ?_
  refine z_aload_2 dL_law_3511 ?_
  refine l_m7 (As := []) (st := [.int a]) hm dL_law_3512 zy_X7_pushCount zm_L_375 rfl rfl rfl rfl (Nat.le_of_ble_eq_true rfl) h3 (by decide) ?_
  refine z_icmp_eq_t (tgt := 3639) dL_law_3515 (by decide) hab ?_
  exact l_next K
theorem l_case60 (hi : i + 6 ≤ n) (hn : n ≤ 3072) (hc : f i &&& 63 = 60) {a : Int32} {d2 : Nat} (h2 : d2 + 1 ≤ d) (hX : zM (n, f) yX6_appliedCount cX6_appliedCount 1 (some .int) d2 0 0 [.ref 0] (qh S X R T) (.inl (some (.int a))) (qh S X' R' T)) {b : Int32} {d3 : Nat} (h3 : d3 + 1 ≤ d) (hm : zM (n, f) yX7_appliedCount cX7_appliedCount 1 (some .int) d3 0 0 [.ref 0] (mh M) (.inl (some (.int b))) (mh M')) (hab : a = b)
    (K : Z (n, f) yL_law cL_law 9 (some .boolean) d mc ms 28 (some (.ref 1000202) :: some (.ref 0) :: some (.ref 117) :: some (.ref 115) :: some (.ref 116) :: some (.int (nI (i + 6))) :: [none, none, none]) [] (LH S X' R' T P TU q G TN fl fd n f M') r h') : Z (n, f) yL_law cL_law 9 (some .boolean) d (mc + 1) (ms + 6) 28 (some (.ref 1000202) :: some (.ref 0) :: some (.ref 117) :: some (.ref 115) :: some (.ref 116) :: some (.int (nI (i))) :: [none, none, none]) [] (LH S X R T P TU q G TN fl fd n f M) r h' := by
  refine l_head hi hn ?_
  rw [hc]
  refine z_tabIn (tgt := 3520) dL_law_45 (by decide) (by decide) rfl (by decide) ?_
  refine z_aload_1 dL_law_3520 ?_
  refine Z.more (mc := mc) (ms := ms) (by omega) (by omega) ?_
  refine l_q6 (As := []) (st := []) hX dL_law_3521 zy_X6_appliedCount zm_L_376 rfl rfl (Nat.le_of_ble_eq_true rfl) h2 (by decide) ?_
  refine z_aload_2 dL_law_3524 ?_
  refine l_m7 (As := []) (st := [.int a]) hm dL_law_3525 zy_X7_appliedCount zm_L_379 rfl rfl rfl rfl (Nat.le_of_ble_eq_true rfl) h3 (by decide) ?_
  refine z_icmp_eq_t (tgt := 3639) dL_law_3528 (by decide) hab ?_
  exact l_next K
theorem l_case61 (hi : i + 6 ≤ n) (hn : n ≤ 3072) (hc : f i &&& 63 = 61) {a : Int32} {d2 : Nat} (h2 : d2 + 1 ≤ d) (hX : zM (n, f) yX6_violations cX6_violations 3 (some .int) d2 0 0 [.ref 0] (qh S X R T) (.inl (some (.int a))) (qh S X' R' T)) {b : Int32} {d3 : Nat} (h3 : d3 + 1 ≤ d) (hm : zM (n, f) yX7_violations cX7_violations 3 (some .int) d3 0 0 [.ref 0] (mh M) (.inl (some (.int b))) (mh M')) (hab : a = b)
    (K : Z (n, f) yL_law cL_law 9 (some .boolean) d mc ms 28 (some (.ref 1000202) :: some (.ref 0) :: some (.ref 117) :: some (.ref 115) :: some (.ref 116) :: some (.int (nI (i + 6))) :: [none, none, none]) [] (LH S X' R' T P TU q G TN fl fd n f M') r h') : Z (n, f) yL_law cL_law 9 (some .boolean) d (mc + 1) (ms + 6) 28 (some (.ref 1000202) :: some (.ref 0) :: some (.ref 117) :: some (.ref 115) :: some (.ref 116) :: some (.int (nI (i))) :: [none, none, none]) [] (LH S X R T P TU q G TN fl fd n f M) r h' := by
  refine l_head hi hn ?_
  rw [hc]
  refine z_tabIn (tgt := 3533) dL_law_45 (by decide) (by decide) rfl (by decide) ?_
  refine z_aload_1 dL_law_3533 ?_
  refine Z.more (mc := mc) (ms := ms) (by omega) (by omega) ?_
  refine l_q6 (As := []) (st := []) hX dL_law_3534 zy_X6_violations zm_L_380 rfl rfl (Nat.le_of_ble_eq_true rfl) h2 (by decide) ?_
  refine z_aload_2 dL_law_3537 ?_
  refine l_m7 (As := []) (st := [.int a]) hm dL_law_3538 zy_X7_violations zm_L_383 rfl rfl rfl rfl (Nat.le_of_ble_eq_true rfl) h3 (by decide) ?_
  refine z_icmp_eq_t (tgt := 3639) dL_law_3541 (by decide) hab ?_
  exact l_next K
theorem l_case62 (hi : i + 6 ≤ n) (hn : n ≤ 3072) (hc : f i &&& 63 = 62) {k : Int32} {d2 mc2 ms2 : Nat} (h2 : d2 + 1 ≤ d) (hmc : mc2 ≤ 1) (hms : ms2 ≤ 6) (hW : zMW (n, f) yL_writeRange cL_writeRange 5 (some .int) d2 mc2 ms2 [.ref 0, .int (f (i + 1)), .int (f (i + 2)), .ref 115] (WL S X R T P TU q G TN fl) (some (.int k)) (WL S' X' R' T' P' TU' q' G' TN' fl')) {b : Int32} {d3 : Nat} (h3 : d3 + 1 ≤ d) (hm : zM (n, f) yX7_writeRange cX7_writeRange 4 (some .int) d3 0 0 [.ref 0, .int (f (i + 1)), .int (f (i + 2))] (mh M) (.inl (some (.int b))) (mh M')) (hk : M'.1 15 = k) (hb : k = 0 → fl' 0 = b.toInt64)
    (K : Z (n, f) yL_law cL_law 9 (some .boolean) d mc ms 28 (some (.ref 1000202) :: some (.ref 0) :: some (.ref 117) :: some (.ref 115) :: some (.ref 116) :: some (.int (nI (i + 6))) :: [none, none, none]) [] (LH S' X' R' T' P' TU' q' G' TN' fl' fd n f M') r h') : Z (n, f) yL_law cL_law 9 (some .boolean) d (mc + 1) (ms + 6) 28 (some (.ref 1000202) :: some (.ref 0) :: some (.ref 117) :: some (.ref 115) :: some (.ref 116) :: some (.int (nI (i))) :: [none, none, none]) [] (LH S X R T P TU q G TN fl fd n f M) r h' := by
  refine l_head hi hn ?_
  rw [hc]
  refine z_tabIn (tgt := 3546) dL_law_45 (by decide) (by decide) rfl (by decide) ?_
  refine z_aload_1 dL_law_3546 ?_
  refine l_arg (j := 1) hi hn (by decide) (by decide) dL_law_3547 dL_law_3548 dL_law_3550 dL_law_3551 dL_law_3552 ?_
  refine l_arg (j := 2) hi hn (by decide) (by decide) dL_law_3553 dL_law_3554 dL_law_3556 dL_law_3557 dL_law_3558 ?_
  refine z_aload_3 dL_law_3559 ?_
  refine Z.more (mc := mc + mc2) (ms := ms + ms2) (by omega) (by omega) ?_
  refine l_wr (st := []) hW dL_law_3560 zy_L_writeRange zm_L_384 rfl (by decide) h2 (by decide) ?_
  refine z_istore_6 dL_law_3563 rfl (by decide) ?_
  refine z_aload_2 dL_law_3565 ?_
  refine l_arg (j := 1) hi hn (by decide) (by decide) dL_law_3566 dL_law_3567 dL_law_3569 dL_law_3570 dL_law_3571 ?_
  refine l_arg (j := 2) hi hn (by decide) (by decide) dL_law_3572 dL_law_3573 dL_law_3575 dL_law_3576 dL_law_3577 ?_
  refine l_m7 (As := [.int (f (i + 1)), .int (f (i + 2))]) (st := []) hm dL_law_3578 zy_X7_writeRange zm_L_386 rfl rfl rfl rfl (Nat.le_of_ble_eq_true rfl) h3 (by decide) ?_
  refine z_istore_7 dL_law_3581 rfl (by decide) ?_
  refine l_tailI hk hb (by omega) dL_law_3583 dL_law_3584 dL_law_3587 dL_law_3589 dL_law_3594 dL_law_3596 dL_law_3599 dL_law_3600 dL_law_3601 dL_law_3602 dL_law_3604 dL_law_3605 dL_law_3606 dL_law_3611 (by decide) ?_
  exact l_next K
theorem l_case63 (hi : i + 6 ≤ n) (hn : n ≤ 3072) (hc : f i &&& 63 = 63) {a : Int32} {d2 : Nat} (h2 : d2 + 1 ≤ d) (hX : zM (n, f) yX6_reportByte cX6_reportByte 2 (some .int) d2 0 0 [.ref 0, .int (f (i + 1))] (qh S X R T) (.inl (some (.int a))) (qh S X' R' T)) {b : Int32} {d3 : Nat} (h3 : d3 + 1 ≤ d) (hm : zM (n, f) yX7_reportByte cX7_reportByte 2 (some .int) d3 0 0 [.ref 0, .int (f (i + 1))] (mh M) (.inl (some (.int b))) (mh M')) (hab : a = b)
    (K : Z (n, f) yL_law cL_law 9 (some .boolean) d mc ms 28 (some (.ref 1000202) :: some (.ref 0) :: some (.ref 117) :: some (.ref 115) :: some (.ref 116) :: some (.int (nI (i + 6))) :: [none, none, none]) [] (LH S X' R' T P TU q G TN fl fd n f M') r h') : Z (n, f) yL_law cL_law 9 (some .boolean) d (mc + 1) (ms + 6) 28 (some (.ref 1000202) :: some (.ref 0) :: some (.ref 117) :: some (.ref 115) :: some (.ref 116) :: some (.int (nI (i))) :: [none, none, none]) [] (LH S X R T P TU q G TN fl fd n f M) r h' := by
  refine l_head hi hn ?_
  rw [hc]
  refine z_tabIn (tgt := 3614) dL_law_45 (by decide) (by decide) rfl (by decide) ?_
  refine z_aload_1 dL_law_3614 ?_
  refine l_arg (j := 1) hi hn (by decide) (by decide) dL_law_3615 dL_law_3616 dL_law_3618 dL_law_3619 dL_law_3620 ?_
  refine Z.more (mc := mc) (ms := ms) (by omega) (by omega) ?_
  refine l_q6 (As := [.int (f (i + 1))]) (st := []) hX dL_law_3621 zy_X6_reportByte zm_L_387 rfl rfl (Nat.le_of_ble_eq_true rfl) h2 (by decide) ?_
  refine z_aload_2 dL_law_3624 ?_
  refine l_arg (j := 1) hi hn (by decide) (by decide) dL_law_3625 dL_law_3626 dL_law_3628 dL_law_3629 dL_law_3630 ?_
  refine l_m7 (As := [.int (f (i + 1))]) (st := [.int a]) hm dL_law_3631 zy_X7_reportByte zm_L_390 rfl rfl rfl rfl (Nat.le_of_ble_eq_true rfl) h3 (by decide) ?_
  refine z_icmp_eq_t (tgt := 3639) dL_law_3634 (by decide) hab ?_
  exact l_next K
end LAWC
