variable {sc : SC}

section LAWC
variable {d mc ms : Nat} {r : zR} {h' : List zO} {i : Nat}
variable {S X R : ZS} {T : TS} {P : ZS} {TU : TS} {q : Nat} {G : Nat → TS} {TN : TS} {fl : Nat → Int64} {fd : Nat → UInt64} {n : Nat} {f : Nat → Int32} {M : ZS} {S' X' R' : ZS} {T' : TS} {P' : ZS} {TU' : TS} {q' : Nat} {G' : Nat → TS} {TN' : TS} {fl' : Nat → Int64} {fd' : Nat → UInt64} {M' : ZS}
theorem l_case32 (hi : i + 6 ≤ n) (hn : n ≤ 3072) (hc : f i &&& 63 = 32) {k : Int32} {d2 mc2 ms2 : Nat} (h2 : d2 + 1 ≤ d) (hmc : mc2 ≤ 1) (hms : ms2 ≤ 6) (hW : zMW (n, f) yL_firstBelow cL_firstBelow 5 (some .int) d2 mc2 ms2 [.ref 0, .int (f (i + 1)), .int (f (i + 2)), .ref 115] (WL S X R T P TU q G TN fl) (some (.int k)) (WL S' X' R' T' P' TU' q' G' TN' fl')) {b : Int32} {d3 : Nat} (h3 : d3 + 1 ≤ d) (hm : zM (n, f) yX7_firstBelow cX7_firstBelow 4 (some .int) d3 0 0 [.ref 0, .int (f (i + 1)), .int (f (i + 2))] (mh M) (.inl (some (.int b))) (mh M')) (hk : M'.1 15 = k) (hb : k = 0 → fl' 0 = b.toInt64)
    (K : Z (n, f) yL_law cL_law 9 (some .boolean) d mc ms 28 (some (.ref 1000202) :: some (.ref 0) :: some (.ref 117) :: some (.ref 115) :: some (.ref 116) :: some (.int (nI (i + 6))) :: [none, none, none]) [] (LH S' X' R' T' P' TU' q' G' TN' fl' fd n f M') r h') : Z (n, f) yL_law cL_law 9 (some .boolean) d (mc + 1) (ms + 6) 28 (some (.ref 1000202) :: some (.ref 0) :: some (.ref 117) :: some (.ref 115) :: some (.ref 116) :: some (.int (nI (i))) :: [none, none, none]) [] (LH S X R T P TU q G TN fl fd n f M) r h' := by
  refine l_head hi hn ?_
  rw [hc]
  refine z_tabIn (tgt := 2048) dL_law_45 (by decide) (by decide) rfl (by decide) ?_
  refine z_aload_1 dL_law_2048 ?_
  refine l_arg (j := 1) hi hn (by decide) (by decide) dL_law_2049 dL_law_2050 dL_law_2052 dL_law_2053 dL_law_2054 ?_
  refine l_arg (j := 2) hi hn (by decide) (by decide) dL_law_2055 dL_law_2056 dL_law_2058 dL_law_2059 dL_law_2060 ?_
  refine z_aload_3 dL_law_2061 ?_
  refine Z.more (mc := mc + mc2) (ms := ms + ms2) (by omega) (by omega) ?_
  refine l_wr (st := []) hW dL_law_2062 zy_L_firstBelow zm_L_281 rfl (by decide) h2 (by decide) ?_
  refine z_istore_6 dL_law_2065 rfl (by decide) ?_
  refine z_aload_2 dL_law_2067 ?_
  refine l_arg (j := 1) hi hn (by decide) (by decide) dL_law_2068 dL_law_2069 dL_law_2071 dL_law_2072 dL_law_2073 ?_
  refine l_arg (j := 2) hi hn (by decide) (by decide) dL_law_2074 dL_law_2075 dL_law_2077 dL_law_2078 dL_law_2079 ?_
  refine l_m7 (As := [.int (f (i + 1)), .int (f (i + 2))]) (st := []) hm dL_law_2080 zy_X7_firstBelow zm_L_283 rfl rfl rfl rfl (Nat.le_of_ble_eq_true rfl) h3 (by decide) ?_
  refine z_istore_7 dL_law_2083 rfl (by decide) ?_
  refine l_tailI hk hb (by omega) dL_law_2085 dL_law_2086 dL_law_2089 dL_law_2091 dL_law_2096 dL_law_2098 dL_law_2101 dL_law_2102 dL_law_2103 dL_law_2104 dL_law_2106 dL_law_2107 dL_law_2108 dL_law_2113 (by decide) ?_
  exact l_next K
theorem l_case33 (hi : i + 6 ≤ n) (hn : n ≤ 3072) (hc : f i &&& 63 = 33) {k : Int32} {d2 mc2 ms2 : Nat} (h2 : d2 + 1 ≤ d) (hmc : mc2 ≤ 1) (hms : ms2 ≤ 6) (hW : zMW (n, f) yL_lastAtLeast cL_lastAtLeast 5 (some .int) d2 mc2 ms2 [.ref 0, .int (f (i + 1)), .int (f (i + 2)), .ref 115] (WL S X R T P TU q G TN fl) (some (.int k)) (WL S' X' R' T' P' TU' q' G' TN' fl')) {b : Int32} {d3 : Nat} (h3 : d3 + 1 ≤ d) (hm : zM (n, f) yX7_lastAtLeast cX7_lastAtLeast 4 (some .int) d3 0 0 [.ref 0, .int (f (i + 1)), .int (f (i + 2))] (mh M) (.inl (some (.int b))) (mh M')) (hk : M'.1 15 = k) (hb : k = 0 → fl' 0 = b.toInt64)
    (K : Z (n, f) yL_law cL_law 9 (some .boolean) d mc ms 28 (some (.ref 1000202) :: some (.ref 0) :: some (.ref 117) :: some (.ref 115) :: some (.ref 116) :: some (.int (nI (i + 6))) :: [none, none, none]) [] (LH S' X' R' T' P' TU' q' G' TN' fl' fd n f M') r h') : Z (n, f) yL_law cL_law 9 (some .boolean) d (mc + 1) (ms + 6) 28 (some (.ref 1000202) :: some (.ref 0) :: some (.ref 117) :: some (.ref 115) :: some (.ref 116) :: some (.int (nI (i))) :: [none, none, none]) [] (LH S X R T P TU q G TN fl fd n f M) r h' := by
  refine l_head hi hn ?_
  rw [hc]
  refine z_tabIn (tgt := 2116) dL_law_45 (by decide) (by decide) rfl (by decide) ?_
  refine z_aload_1 dL_law_2116 ?_
  refine l_arg (j := 1) hi hn (by decide) (by decide) dL_law_2117 dL_law_2118 dL_law_2120 dL_law_2121 dL_law_2122 ?_
  refine l_arg (j := 2) hi hn (by decide) (by decide) dL_law_2123 dL_law_2124 dL_law_2126 dL_law_2127 dL_law_2128 ?_
  refine z_aload_3 dL_law_2129 ?_
  refine Z.more (mc := mc + mc2) (ms := ms + ms2) (by omega) (by omega) ?_
  refine l_wr (st := []) hW dL_law_2130 zy_L_lastAtLeast zm_L_284 rfl (by decide) h2 (by decide) ?_
  refine z_istore_6 dL_law_2133 rfl (by decide) ?_
  refine z_aload_2 dL_law_2135 ?_
  refine l_arg (j := 1) hi hn (by decide) (by decide) dL_law_2136 dL_law_2137 dL_law_2139 dL_law_2140 dL_law_2141 ?_
  refine l_arg (j := 2) hi hn (by decide) (by decide) dL_law_2142 dL_law_2143 dL_law_2145 dL_law_2146 dL_law_2147 ?_
  refine l_m7 (As := [.int (f (i + 1)), .int (f (i + 2))]) (st := []) hm dL_law_2148 zy_X7_lastAtLeast zm_L_286 rfl rfl rfl rfl (Nat.le_of_ble_eq_true rfl) h3 (by decide) ?_
  refine z_istore_7 dL_law_2151 rfl (by decide) ?_
  refine l_tailI hk hb (by omega) dL_law_2153 dL_law_2154 dL_law_2157 dL_law_2159 dL_law_2164 dL_law_2166 dL_law_2169 dL_law_2170 dL_law_2171 dL_law_2172 dL_law_2174 dL_law_2175 dL_law_2176 dL_law_2181 (by decide) ?_
  exact l_next K
theorem l_case34 (hi : i + 6 ≤ n) (hn : n ≤ 3072) (hc : f i &&& 63 = 34) {a : Int32} {d2 : Nat} (h2 : d2 + 1 ≤ d) (hX : zM (n, f) yX6_longestRun cX6_longestRun 5 (some .int) d2 0 0 [.ref 0, .int (f (i + 1))] (qh S X R T) (.inl (some (.int a))) (qh S X' R' T)) {b : Int32} {d3 : Nat} (h3 : d3 + 1 ≤ d) (hm : zM (n, f) yX7_longestRun cX7_longestRun 5 (some .int) d3 0 0 [.ref 0, .int (f (i + 1))] (mh M) (.inl (some (.int b))) (mh M')) (hab : a = b)
    (K : Z (n, f) yL_law cL_law 9 (some .boolean) d mc ms 28 (some (.ref 1000202) :: some (.ref 0) :: some (.ref 117) :: some (.ref 115) :: some (.ref 116) :: some (.int (nI (i + 6))) :: [none, none, none]) [] (LH S X' R' T P TU q G TN fl fd n f M') r h') : Z (n, f) yL_law cL_law 9 (some .boolean) d (mc + 1) (ms + 6) 28 (some (.ref 1000202) :: some (.ref 0) :: some (.ref 117) :: some (.ref 115) :: some (.ref 116) :: some (.int (nI (i))) :: [none, none, none]) [] (LH S X R T P TU q G TN fl fd n f M) r h' := by
  refine l_head hi hn ?_
  rw [hc]
  refine z_tabIn (tgt := 2184) dL_law_45 (by decide) (by decide) rfl (by decide) ?_
  refine z_aload_1 dL_law_2184 ?_
  refine l_arg (j := 1) hi hn (by decide) (by decide) dL_law_2185 dL_law_2186 dL_law_2188 dL_law_2189 dL_law_2190 ?_
  refine Z.more (mc := mc) (ms := ms) (by omega) (by omega) ?_
  refine l_q6 (As := [.int (f (i + 1))]) (st := []) hX dL_law_2191 zy_X6_longestRun zm_L_287 rfl rfl (Nat.le_of_ble_eq_true rfl) h2 (by decide) ?_
  refine z_aload_2 dL_law_2194 ?_
  refine l_arg (j := 1) hi hn (by decide) (by decide) dL_law_2195 dL_law_2196 dL_law_2198 dL_law_2199 dL_law_2200 ?_
  refine l_m7 (As := [.int (f (i + 1))]) (st := [.int a]) hm dL_law_2201 zy_X7_longestRun zm_L_290 rfl rfl rfl rfl (Nat.le_of_ble_eq_true rfl) h3 (by decide) ?_
  refine z_icmp_eq_t (tgt := 3639) dL_law_2204 (by decide) hab ?_
  exact l_next K
theorem l_case35 (hi : i + 6 ≤ n) (hn : n ≤ 3072) (hc : f i &&& 63 = 35) {a : Int32} {d2 : Nat} (h2 : d2 + 1 ≤ d) (hX : zM (n, f) yX6_occurrence cX6_occurrence 5 (some .int) d2 0 0 [.ref 0, .int (f (i + 1)), .int (f (i + 2))] (qh S X R T) (.inl (some (.int a))) (qh S X' R' T)) {b : Int32} {d3 : Nat} (h3 : d3 + 1 ≤ d) (hm : zM (n, f) yX7_occurrence cX7_occurrence 5 (some .int) d3 0 0 [.ref 0, .int (f (i + 1)), .int (f (i + 2))] (mh M) (.inl (some (.int b))) (mh M')) (hab : a = b)
    (K : Z (n, f) yL_law cL_law 9 (some .boolean) d mc ms 28 (some (.ref 1000202) :: some (.ref 0) :: some (.ref 117) :: some (.ref 115) :: some (.ref 116) :: some (.int (nI (i + 6))) :: [none, none, none]) [] (LH S X' R' T P TU q G TN fl fd n f M') r h') : Z (n, f) yL_law cL_law 9 (some .boolean) d (mc + 1) (ms + 6) 28 (some (.ref 1000202) :: some (.ref 0) :: some (.ref 117) :: some (.ref 115) :: some (.ref 116) :: some (.int (nI (i))) :: [none, none, none]) [] (LH S X R T P TU q G TN fl fd n f M) r h' := by
  refine l_head hi hn ?_
  rw [hc]
  refine z_tabIn (tgt := 2209) dL_law_45 (by decide) (by decide) rfl (by decide) ?_
  refine z_aload_1 dL_law_2209 ?_
  refine l_arg (j := 1) hi hn (by decide) (by decide) dL_law_2210 dL_law_2211 dL_law_2213 dL_law_2214 dL_law_2215 ?_
  refine l_arg (j := 2) hi hn (by decide) (by decide) dL_law_2216 dL_law_2217 dL_law_2219 dL_law_2220 dL_law_2221 ?_
  refine Z.more (mc := mc) (ms := ms) (by omega) (by omega) ?_
  refine l_q6 (As := [.int (f (i + 1)), .int (f (i + 2))]) (st := []) hX dL_law_2222 zy_X6_occurrence zm_L_291 rfl rfl (Nat.le_of_ble_eq_true rfl) h2 (by decide) ?_
  refine z_aload_2 dL_law_2225 ?_
  refine l_arg (j := 1) hi hn (by decide) (by decide) dL_law_2226 dL_law_2227 dL_law_2229 dL_law_2230 dL_law_2231 ?_
  refine l_arg (j := 2) hi hn (by decide) (by decide) dL_law_2232 dL_law_2233 dL_law_2235 dL_law_2236 dL_law_2237 ?_
  refine l_m7 (As := [.int (f (i + 1)), .int (f (i + 2))]) (st := [.int a]) hm dL_law_2238 zy_X7_occurrence zm_L_294 rfl rfl rfl rfl (Nat.le_of_ble_eq_true rfl) h3 (by decide) ?_
  refine z_icmp_eq_t (tgt := 3639) dL_law_2241 (by decide) hab ?_
  exact l_next K
theorem l_case36 (hi : i + 6 ≤ n) (hn : n ≤ 3072) (hc : f i &&& 63 = 36) {a : Int32} {d2 : Nat} (h2 : d2 + 1 ≤ d) (hX : zM (n, f) yX6_prefixAtLeast cX6_prefixAtLeast 6 (some .int) d2 0 0 [.ref 0, .long (lq f i)] (qh S X R T) (.inl (some (.int a))) (qh S X' R' T)) {b : Int32} {d3 : Nat} (h3 : d3 + 1 ≤ d) (hm : zM (n, f) yX7_prefixAtLeast cX7_prefixAtLeast 6 (some .int) d3 0 0 [.ref 0, .long (lq f i)] (mh M) (.inl (some (.int b))) (mh M')) (hab : a = b)
    (K : Z (n, f) yL_law cL_law 9 (some .boolean) d mc ms 28 (some (.ref 1000202) :: some (.ref 0) :: some (.ref 117) :: some (.ref 115) :: some (.ref 116) :: some (.int (nI (i + 6))) :: [none, none, none]) [] (LH S X' R' T P TU q G TN fl fd n f M') r h') : Z (n, f) yL_law cL_law 9 (some .boolean) d (mc + 1) (ms + 6) 28 (some (.ref 1000202) :: some (.ref 0) :: some (.ref 117) :: some (.ref 115) :: some (.ref 116) :: some (.int (nI (i))) :: [none, none, none]) [] (LH S X R T P TU q G TN fl fd n f M) r h' := by
  refine l_head hi hn ?_
  rw [hc]
  refine z_tabIn (tgt := 2246) dL_law_45 (by decide) (by decide) rfl (by decide) ?_
  refine z_aload_1 dL_law_2246 ?_
  refine l_arg (j := 1) hi hn (by decide) (by decide) dL_law_2247 dL_law_2248 dL_law_2250 dL_law_2251 dL_law_2252 ?_
  refine z_i2l dL_law_2253 ?_
  refine z_bipush (v := 32) dL_law_2254 rfl ?_
  refine z_lshl dL_law_2256 ?_
  refine l_arg (j := 2) hi hn (by decide) (by decide) dL_law_2257 dL_law_2258 dL_law_2260 dL_law_2261 dL_law_2262 ?_
  refine z_i2l dL_law_2263 ?_
  refine z_ldc2 dL_law_2264 zk_L_295 ?_
  refine z_land dL_law_2267 ?_
  refine z_lor dL_law_2268 ?_
  refine z_topl (w := lq f i) rfl ?_
  refine Z.more (mc := mc) (ms := ms) (by omega) (by omega) ?_
  refine l_q6 (As := [.long (lq f i)]) (st := []) hX dL_law_2269 zy_X6_prefixAtLeast zm_L_297 rfl rfl (Nat.le_of_ble_eq_true rfl) h2 (by decide) ?_
  refine z_aload_2 dL_law_2272 ?_
  refine l_arg (j := 1) hi hn (by decide) (by decide) dL_law_2273 dL_law_2274 dL_law_2276 dL_law_2277 dL_law_2278 ?_
  refine z_i2l dL_law_2279 ?_
  refine z_bipush (v := 32) dL_law_2280 rfl ?_
  refine z_lshl dL_law_2282 ?_
  refine l_arg (j := 2) hi hn (by decide) (by decide) dL_law_2283 dL_law_2284 dL_law_2286 dL_law_2287 dL_law_2288 ?_
  refine z_i2l dL_law_2289 ?_
  refine z_ldc2 dL_law_2290 zk_L_295 ?_
  refine z_land dL_law_2293 ?_
  refine z_lor dL_law_2294 ?_
  refine z_topl (w := lq f i) rfl ?_
  refine l_m7 (As := [.long (lq f i)]) (st := [.int a]) hm dL_law_2295 zy_X7_prefixAtLeast zm_L_301 rfl rfl rfl rfl (Nat.le_of_ble_eq_true rfl) h3 (by decide) ?_
  refine z_icmp_eq_t (tgt := 3639) dL_law_2298 (by decide) hab ?_
  exact l_next K
theorem l_case37 (hi : i + 6 ≤ n) (hn : n ≤ 3072) (hc : f i &&& 63 = 37) {k : Int32} {d2 mc2 ms2 : Nat} (h2 : d2 + 1 ≤ d) (hmc : mc2 ≤ 1) (hms : ms2 ≤ 6) (hW : zMW (n, f) yL_distinctCount cL_distinctCount 5 (some .int) d2 mc2 ms2 [.ref 0, .int (f (i + 1)), .int (f (i + 2)), .ref 115] (WL S X R T P TU q G TN fl) (some (.int k)) (WL S' X' R' T' P' TU' q' G' TN' fl')) {b : Int32} {d3 : Nat} (h3 : d3 + 1 ≤ d) (hm : zM (n, f) yX7_distinctCount cX7_distinctCount 5 (some .int) d3 0 0 [.ref 0, .int (f (i + 1)), .int (f (i + 2))] (mh M) (.inl (some (.int b))) (mh M')) (hk : M'.1 15 = k) (hb : k = 0 → fl' 0 = b.toInt64)
    (K : Z (n, f) yL_law cL_law 9 (some .boolean) d mc ms 28 (some (.ref 1000202) :: some (.ref 0) :: some (.ref 117) :: some (.ref 115) :: some (.ref 116) :: some (.int (nI (i + 6))) :: [none, none, none]) [] (LH S' X' R' T' P' TU' q' G' TN' fl' fd n f M') r h') : Z (n, f) yL_law cL_law 9 (some .boolean) d (mc + 1) (ms + 6) 28 (some (.ref 1000202) :: some (.ref 0) :: some (.ref 117) :: some (.ref 115) :: some (.ref 116) :: some (.int (nI (i))) :: [none, none, none]) [] (LH S X R T P TU q G TN fl fd n f M) r h' := by
  refine l_head hi hn ?_
  rw [hc]
  refine z_tabIn (tgt := 2303) dL_law_45 (by decide) (by decide) rfl (by decide) ?_
  refine z_aload_1 dL_law_2303 ?_
  refine l_arg (j := 1) hi hn (by decide) (by decide) dL_law_2304 dL_law_2305 dL_law_2307 dL_law_2308 dL_law_2309 ?_
  refine l_arg (j := 2) hi hn (by decide) (by decide) dL_law_2310 dL_law_2311 dL_law_2313 dL_law_2314 dL_law_2315 ?_
  refine z_aload_3 dL_law_2316 ?_
  refine Z.more (mc := mc + mc2) (ms := ms + ms2) (by omega) (by omega) ?_
  refine l_wr (st := []) hW dL_law_2317 zy_L_distinctCount zm_L_302 rfl (by decide) h2 (by decide) ?_
  refine z_istore_6 dL_law_2320 rfl (by decide) ?_
  refine z_aload_2 dL_law_2322 ?_
  refine l_arg (j := 1) hi hn (by decide) (by decide) dL_law_2323 dL_law_2324 dL_law_2326 dL_law_2327 dL_law_2328 ?_
  refine l_arg (j := 2) hi hn (by decide) (by decide) dL_law_2329 dL_law_2330 dL_law_2332 dL_law_2333 dL_law_2334 ?_
  refine l_m7 (As := [.int (f (i + 1)), .int (f (i + 2))]) (st := []) hm dL_law_2335 zy_X7_distinctCount zm_L_304 rfl rfl rfl rfl (Nat.le_of_ble_eq_true rfl) h3 (by decide) ?_
  refine z_istore_7 dL_law_2338 rfl (by decide) ?_
  refine l_tailI hk hb (by omega) dL_law_2340 dL_law_2341 dL_law_2344 dL_law_2346 dL_law_2351 dL_law_2353 dL_law_2356 dL_law_2357 dL_law_2358 dL_law_2359 dL_law_2361 dL_law_2362 dL_law_2363 dL_law_2368 (by decide) ?_
  exact l_next K
theorem l_case38 (hi : i + 6 ≤ n) (hn : n ≤ 3072) (hc : f i &&& 63 = 38) {a : Int32} {d2 : Nat} (h2 : d2 + 1 ≤ d) (hX : zM (n, f) yX6_nodeCount cX6_nodeCount 1 (some .int) d2 0 0 [.ref 0] (qh S X R T) (.inl (some (.int a))) (qh S X' R' T)) {b : Int32} {d3 : Nat} (h3 : d3 + 1 ≤ d) (hm : zM (n, f) yX7_nodeCount cX7_nodeCount 1 (some .int) d3 0 0 [.ref 0] (mh M) (.inl (some (.int b))) (mh M')) (hab : a = b)
    (K : Z (n, f) yL_law cL_law 9 (some .boolean) d mc ms 28 (some (.ref 1000202) :: some (.ref 0) :: some (.ref 117) :: some (.ref 115) :: some (.ref 116) :: some (.int (nI (i + 6))) :: [none, none, none]) [] (LH S X' R' T P TU q G TN fl fd n f M') r h') : Z (n, f) yL_law cL_law 9 (some .boolean) d (mc + 1) (ms + 6) 28 (some (.ref 1000202) :: some (.ref 0) :: some (.ref 117) :: some (.ref 115) :: some (.ref 116) :: some (.int (nI (i))) :: [none, none, none]) [] (LH S X R T P TU q G TN fl fd n f M) r h' := by
  refine l_head hi hn ?_
  rw [hc]
  refine z_tabIn (tgt := 2371) dL_law_45 (by decide) (by decide) rfl (by decide) ?_
  refine z_aload_1 dL_law_2371 ?_
  refine Z.more (mc := mc) (ms := ms) (by omega) (by omega) ?_
  refine l_q6 (As := []) (st := []) hX dL_law_2372 zy_X6_nodeCount zm_L_305 rfl rfl (Nat.le_of_ble_eq_true rfl) h2 (by decide) ?_
  refine z_aload_2 dL_law_2375 ?_
  refine l_m7 (As := []) (st := [.int a]) hm dL_law_2376 zy_X7_nodeCount zm_L_308 rfl rfl rfl rfl (Nat.le_of_ble_eq_true rfl) h3 (by decide) ?_
  refine z_icmp_eq_t (tgt := 3639) dL_law_2379 (by decide) hab ?_
  exact l_next K
theorem l_case39 (hi : i + 6 ≤ n) (hn : n ≤ 3072) (hc : f i &&& 63 = 39) {a : Int32} {d2 : Nat} (h2 : d2 + 1 ≤ d) (hX : zM (n, f) yX6_depth cX6_depth 3 (some .int) d2 0 0 [.ref 0] (qh S X R T) (.inl (some (.int a))) (qh S X' R' T)) {b : Int32} {d3 : Nat} (h3 : d3 + 1 ≤ d) (hm : zM (n, f) yX7_depth cX7_depth 3 (some .int) d3 0 0 [.ref 0] (mh M) (.inl (some (.int b))) (mh M')) (hab : a = b)
    (K : Z (n, f) yL_law cL_law 9 (some .boolean) d mc ms 28 (some (.ref 1000202) :: some (.ref 0) :: some (.ref 117) :: some (.ref 115) :: some (.ref 116) :: some (.int (nI (i + 6))) :: [none, none, none]) [] (LH S X' R' T P TU q G TN fl fd n f M') r h') : Z (n, f) yL_law cL_law 9 (some .boolean) d (mc + 1) (ms + 6) 28 (some (.ref 1000202) :: some (.ref 0) :: some (.ref 117) :: some (.ref 115) :: some (.ref 116) :: some (.int (nI (i))) :: [none, none, none]) [] (LH S X R T P TU q G TN fl fd n f M) r h' := by
  refine l_head hi hn ?_
  rw [hc]
  refine z_tabIn (tgt := 2384) dL_law_45 (by decide) (by decide) rfl (by decide) ?_
  refine z_aload_1 dL_law_2384 ?_
  refine Z.more (mc := mc) (ms := ms) (by omega) (by omega) ?_
  refine l_q6 (As := []) (st := []) hX dL_law_2385 zy_X6_depth zm_L_309 rfl rfl (Nat.le_of_ble_eq_true rfl) h2 (by decide) ?_
  refine z_aload_2 dL_law_2388 ?_
  refine l_m7 (As := []) (st := [.int a]) hm dL_law_2389 zy_X7_depth zm_L_312 rfl rfl rfl rfl (Nat.le_of_ble_eq_true rfl) h3 (by decide) ?_
  refine z_icmp_eq_t (tgt := 3639) dL_law_2392 (by decide) hab ?_
  exact l_next K
theorem l_case40 (hi : i + 6 ≤ n) (hn : n ≤ 3072) (hc : f i &&& 63 = 40) {k : Int32} {d2 mc2 ms2 : Nat} (h2 : d2 + 1 ≤ d) (hmc : mc2 ≤ 1) (hms : ms2 ≤ 6) (hW : zMW (n, f) yL_leafOf cL_leafOf 4 (some .int) d2 mc2 ms2 [.ref 0, .int (f (i + 1)), .ref 115] (WL S X R T P TU q G TN fl) (some (.int k)) (WL S' X' R' T' P' TU' q' G' TN' fl')) {b : Int32} {d3 : Nat} (h3 : d3 + 1 ≤ d) (hm : zM (n, f) yX7_leafOf cX7_leafOf 2 (some .int) d3 0 0 [.ref 0, .int (f (i + 1))] (mh M) (.inl (some (.int b))) (mh M')) (hk : M'.1 15 = k) (hb : k = 0 → fl' 0 = b.toInt64)
    (K : Z (n, f) yL_law cL_law 9 (some .boolean) d mc ms 28 (some (.ref 1000202) :: some (.ref 0) :: some (.ref 117) :: some (.ref 115) :: some (.ref 116) :: some (.int (nI (i + 6))) :: [none, none, none]) [] (LH S' X' R' T' P' TU' q' G' TN' fl' fd n f M') r h') : Z (n, f) yL_law cL_law 9 (some .boolean) d (mc + 1) (ms + 6) 28 (some (.ref 1000202) :: some (.ref 0) :: some (.ref 117) :: some (.ref 115) :: some (.ref 116) :: some (.int (nI (i))) :: [none, none, none]) [] (LH S X R T P TU q G TN fl fd n f M) r h' := by
  refine l_head hi hn ?_
  rw [hc]
  refine z_tabIn (tgt := 2397) dL_law_45 (by decide) (by decide) rfl (by decide) ?_
  refine z_aload_1 dL_law_2397 ?_
  refine l_arg (j := 1) hi hn (by decide) (by decide) dL_law_2398 dL_law_2399 dL_law_2401 dL_law_2402 dL_law_2403 ?_
  refine z_aload_3 dL_law_2404 ?_
  refine Z.more (mc := mc + mc2) (ms := ms + ms2) (by omega) (by omega) ?_
  refine l_wr (st := []) hW dL_law_2405 zy_L_leafOf zm_L_313 rfl (by decide) h2 (by decide) ?_
  refine z_istore_6 dL_law_2408 rfl (by decide) ?_
  refine z_aload_2 dL_law_2410 ?_
  refine l_arg (j := 1) hi hn (by decide) (by decide) dL_law_2411 dL_law_2412 dL_law_2414 dL_law_2415 dL_law_2416 ?_
  refine l_m7 (As := [.int (f (i + 1))]) (st := []) hm dL_law_2417 zy_X7_leafOf zm_L_315 rfl rfl rfl rfl (Nat.le_of_ble_eq_true rfl) h3 (by decide) ?_
  refine z_istore_7 dL_law_2420 rfl (by decide) ?_
  refine l_tailI hk hb (by omega) dL_law_2422 dL_law_2423 dL_law_2426 dL_law_2428 dL_law_2433 dL_law_2435 dL_law_2438 dL_law_2439 dL_law_2440 dL_law_2441 dL_law_2443 dL_law_2444 dL_law_2445 dL_law_2450 (by decide) ?_
  exact l_next K
theorem l_case41 (hi : i + 6 ≤ n) (hn : n ≤ 3072) (hc : f i &&& 63 = 41) {k : Int32} {d2 mc2 ms2 : Nat} (h2 : d2 + 1 ≤ d) (hmc : mc2 ≤ 1) (hms : ms2 ≤ 6) (hW : zMW (n, f) yL_isLeaf cL_isLeaf 4 (some .int) d2 mc2 ms2 [.ref 0, .int (f (i + 1)), .ref 115] (WL S X R T P TU q G TN fl) (some (.int k)) (WL S' X' R' T' P' TU' q' G' TN' fl')) {b : Bool} {d3 : Nat} (h3 : d3 + 1 ≤ d) (hm : zM (n, f) yX7_isLeaf cX7_isLeaf 2 (some .boolean) d3 0 0 [.ref 0, .int (f (i + 1))] (mh M) (.inl (some (.int (zb b)))) (mh M')) (hk : M'.1 15 = k) (hb : k = 0 → fl' 0 = if b = true then 1 else 0)
    (K : Z (n, f) yL_law cL_law 9 (some .boolean) d mc ms 28 (some (.ref 1000202) :: some (.ref 0) :: some (.ref 117) :: some (.ref 115) :: some (.ref 116) :: some (.int (nI (i + 6))) :: [none, none, none]) [] (LH S' X' R' T' P' TU' q' G' TN' fl' fd n f M') r h') : Z (n, f) yL_law cL_law 9 (some .boolean) d (mc + 1) (ms + 6) 28 (some (.ref 1000202) :: some (.ref 0) :: some (.ref 117) :: some (.ref 115) :: some (.ref 116) :: some (.int (nI (i))) :: [none, none, none]) [] (LH S X R T P TU q G TN fl fd n f M) r h' := by
  refine l_head hi hn ?_
  rw [hc]
  refine z_tabIn (tgt := 2453) dL_law_45 (by decide) (by decide) rfl (by decide) ?_
  refine z_aload_1 dL_law_2453 ?_
  refine l_arg (j := 1) hi hn (by decide) (by decide) dL_law_2454 dL_law_2455 dL_law_2457 dL_law_2458 dL_law_2459 ?_
  refine z_aload_3 dL_law_2460 ?_
  refine Z.more (mc := mc + mc2) (ms := ms + ms2) (by omega) (by omega) ?_
  refine l_wr (st := []) hW dL_law_2461 zy_L_isLeaf zm_L_316 rfl (by decide) h2 (by decide) ?_
  refine z_istore_6 dL_law_2464 rfl (by decide) ?_
  refine z_aload_2 dL_law_2466 ?_
  refine l_arg (j := 1) hi hn (by decide) (by decide) dL_law_2467 dL_law_2468 dL_law_2470 dL_law_2471 dL_law_2472 ?_
  refine l_m7 (As := [.int (f (i + 1))]) (st := []) hm dL_law_2473 zy_X7_isLeaf zm_L_318 rfl rfl rfl rfl (Nat.le_of_ble_eq_true rfl) h3 (by decide) ?_
  refine z_istore_7 dL_law_2476 rfl (by decide) ?_
  refine l_tailB hk hb (by omega) dL_law_2478 dL_law_2479 dL_law_2482 dL_law_2484 dL_law_2489 dL_law_2491 dL_law_2494 dL_law_2495 dL_law_2496 dL_law_2497 dL_law_2499 dL_law_2502 dL_law_2503 dL_law_2506 dL_law_2507 dL_law_2508 dL_law_2513 (by decide) ?_
  exact l_next K
theorem l_case42 (hi : i + 6 ≤ n) (hn : n ≤ 3072) (hc : f i &&& 63 = 42) {k : Int32} {d2 mc2 ms2 : Nat} (h2 : d2 + 1 ≤ d) (hmc : mc2 ≤ 1) (hms : ms2 ≤ 6) (hW : zMW (n, f) yL_firstIndex cL_firstIndex 4 (some .int) d2 mc2 ms2 [.ref 0, .int (f (i + 1)), .ref 115] (WL S X R T P TU q G TN fl) (some (.int k)) (WL S' X' R' T' P' TU' q' G' TN' fl')) {b : Int32} {d3 : Nat} (h3 : d3 + 1 ≤ d) (hm : zM (n, f) yX7_firstIndex cX7_firstIndex 2 (some .int) d3 0 0 [.ref 0, .int (f (i + 1))] (mh M) (.inl (some (.int b))) (mh M')) (hk : M'.1 15 = k) (hb : k = 0 → fl' 0 = b.toInt64)
    (K : Z (n, f) yL_law cL_law 9 (some .boolean) d mc ms 28 (some (.ref 1000202) :: some (.ref 0) :: some (.ref 117) :: some (.ref 115) :: some (.ref 116) :: some (.int (nI (i + 6))) :: [none, none, none]) [] (LH S' X' R' T' P' TU' q' G' TN' fl' fd n f M') r h') : Z (n, f) yL_law cL_law 9 (some .boolean) d (mc + 1) (ms + 6) 28 (some (.ref 1000202) :: some (.ref 0) :: some (.ref 117) :: some (.ref 115) :: some (.ref 116) :: some (.int (nI (i))) :: [none, none, none]) [] (LH S X R T P TU q G TN fl fd n f M) r h' := by
  refine l_head hi hn ?_
  rw [hc]
  refine z_tabIn (tgt := 2516) dL_law_45 (by decide) (by decide) rfl (by decide) ?_
  refine z_aload_1 dL_law_2516 ?_
  refine l_arg (j := 1) hi hn (by decide) (by decide) dL_law_2517 dL_law_2518 dL_law_2520 dL_law_2521 dL_law_2522 ?_
  refine z_aload_3 dL_law_2523 ?_
  refine Z.more (mc := mc + mc2) (ms := ms + ms2) (by omega) (by omega) ?_
  refine l_wr (st := []) hW dL_law_2524 zy_L_firstIndex zm_L_319 rfl (by decide) h2 (by decide) ?_
  refine z_istore_6 dL_law_2527 rfl (by decide) ?_
  refine z_aload_2 dL_law_2529 ?_
  refine l_arg (j := 1) hi hn (by decide) (by decide) dL_law_2530 dL_law_2531 dL_law_2533 dL_law_2534 dL_law_2535 ?_
  refine l_m7 (As := [.int (f (i + 1))]) (st := []) hm dL_law_2536 zy_X7_firstIndex zm_L_321 rfl rfl rfl rfl (Nat.le_of_ble_eq_true rfl) h3 (by decide) ?_
  refine z_istore_7 dL_law_2539 rfl (by decide) ?_
  refine l_tailI hk hb (by omega) dL_law_2541 dL_law_2542 dL_law_2545 dL_law_2547 dL_law_2552 dL_law_2554 dL_law_2557 dL_law_2558 dL_law_2559 dL_law_2560 dL_law_2562 dL_law_2563 dL_law_2564 dL_law_2569 (by decide) ?_
  exact l_next K
theorem l_case43 (hi : i + 6 ≤ n) (hn : n ≤ 3072) (hc : f i &&& 63 = 43) {k : Int32} {d2 mc2 ms2 : Nat} (h2 : d2 + 1 ≤ d) (hmc : mc2 ≤ 1) (hms : ms2 ≤ 6) (hW : zMW (n, f) yL_lastIndex cL_lastIndex 4 (some .int) d2 mc2 ms2 [.ref 0, .int (f (i + 1)), .ref 115] (WL S X R T P TU q G TN fl) (some (.int k)) (WL S' X' R' T' P' TU' q' G' TN' fl')) {b : Int32} {d3 : Nat} (h3 : d3 + 1 ≤ d) (hm : zM (n, f) yX7_lastIndex cX7_lastIndex 2 (some .int) d3 0 0 [.ref 0, .int (f (i + 1))] (mh M) (.inl (some (.int b))) (mh M')) (hk : M'.1 15 = k) (hb : k = 0 → fl' 0 = b.toInt64)
    (K : Z (n, f) yL_law cL_law 9 (some .boolean) d mc ms 28 (some (.ref 1000202) :: some (.ref 0) :: some (.ref 117) :: some (.ref 115) :: some (.ref 116) :: some (.int (nI (i + 6))) :: [none, none, none]) [] (LH S' X' R' T' P' TU' q' G' TN' fl' fd n f M') r h') : Z (n, f) yL_law cL_law 9 (some .boolean) d (mc + 1) (ms + 6) 28 (some (.ref 1000202) :: some (.ref 0) :: some (.ref 117) :: some (.ref 115) :: some (.ref 116) :: some (.int (nI (i))) :: [none, none, none]) [] (LH S X R T P TU q G TN fl fd n f M) r h' := by
  refine l_head hi hn ?_
  rw [hc]
  refine z_tabIn (tgt := 2572) dL_law_45 (by decide) (by decide) rfl (by decide) ?_
  refine z_aload_1 dL_law_2572 ?_
  refine l_arg (j := 1) hi hn (by decide) (by decide) dL_law_2573 dL_law_2574 dL_law_2576 dL_law_2577 dL_law_2578 ?_
  refine z_aload_3 dL_law_2579 ?_
  refine Z.more (mc := mc + mc2) (ms := ms + ms2) (by omega) (by omega) ?_
  refine l_wr (st := []) hW dL_law_2580 zy_L_lastIndex zm_L_322 rfl (by decide) h2 (by decide) ?_
  refine z_istore_6 dL_law_2583 rfl (by decide) ?_
  refine z_aload_2 dL_law_2585 ?_
  refine l_arg (j := 1) hi hn (by decide) (by decide) dL_law_2586 dL_law_2587 dL_law_2589 dL_law_2590 dL_law_2591 ?_
  refine l_m7 (As := [.int (f (i + 1))]) (st := []) hm dL_law_2592 zy_X7_lastIndex zm_L_324 rfl rfl rfl rfl (Nat.le_of_ble_eq_true rfl) h3 (by decide) ?_
  refine z_istore_7 dL_law_2595 rfl (by decide) ?_
  refine l_tailI hk hb (by omega) dL_law_2597 dL_law_2598 dL_law_2601 dL_law_2603 dL_law_2608 dL_law_2610 dL_law_2613 dL_law_2614 dL_law_2615 dL_law_2616 dL_law_2618 dL_law_2619 dL_law_2620 dL_law_2625 (by decide) ?_
  exact l_next K
theorem l_case44 (hi : i + 6 ≤ n) (hn : n ≤ 3072) (hc : f i &&& 63 = 44) {k : Int32} {d2 mc2 ms2 : Nat} (h2 : d2 + 1 ≤ d) (hmc : mc2 ≤ 1) (hms : ms2 ≤ 6) (hW : zMW (n, f) yL_storedSum cL_storedSum 4 (some .int) d2 mc2 ms2 [.ref 0, .int (f (i + 1)), .ref 115] (WL S X R T P TU q G TN fl) (some (.int k)) (WL S' X' R' T' P' TU' q' G' TN' fl')) {b : Int64} {d3 : Nat} (h3 : d3 + 1 ≤ d) (hm : zM (n, f) yX7_storedSum cX7_storedSum 5 (some .long) d3 0 0 [.ref 0, .int (f (i + 1))] (mh M) (.inl (some (.long b))) (mh M')) (hk : M'.1 15 = k) (hb : k = 0 → fl' 0 = b)
    (K : Z (n, f) yL_law cL_law 9 (some .boolean) d mc ms 28 (some (.ref 1000202) :: some (.ref 0) :: some (.ref 117) :: some (.ref 115) :: some (.ref 116) :: some (.int (nI (i + 6))) :: [none, none, none]) [] (LH S' X' R' T' P' TU' q' G' TN' fl' fd n f M') r h') : Z (n, f) yL_law cL_law 9 (some .boolean) d (mc + 1) (ms + 6) 28 (some (.ref 1000202) :: some (.ref 0) :: some (.ref 117) :: some (.ref 115) :: some (.ref 116) :: some (.int (nI (i))) :: [none, none, none]) [] (LH S X R T P TU q G TN fl fd n f M) r h' := by
  refine l_head hi hn ?_
  rw [hc]
  refine z_tabIn (tgt := 2628) dL_law_45 (by decide) (by decide) rfl (by decide) ?_
  refine z_aload_1 dL_law_2628 ?_
  refine l_arg (j := 1) hi hn (by decide) (by decide) dL_law_2629 dL_law_2630 dL_law_2632 dL_law_2633 dL_law_2634 ?_
  refine z_aload_3 dL_law_2635 ?_
  refine Z.more (mc := mc + mc2) (ms := ms + ms2) (by omega) (by omega) ?_
  refine l_wr (st := []) hW dL_law_2636 zy_L_storedSum zm_L_325 rfl (by decide) h2 (by decide) ?_
  refine z_istore_6 dL_law_2639 rfl (by decide) ?_
  refine z_aload_2 dL_law_2641 ?_
  refine l_arg (j := 1) hi hn (by decide) (by decide) dL_law_2642 dL_law_2643 dL_law_2645 dL_law_2646 dL_law_2647 ?_
  refine l_m7 (As := [.int (f (i + 1))]) (st := []) hm dL_law_2648 zy_X7_storedSum zm_L_327 rfl rfl rfl rfl (Nat.le_of_ble_eq_true rfl) h3 (by decide) ?_
  refine z_lstore_7 dL_law_2651 rfl (by decide) ?_
  refine l_tailL hk hb (by omega) dL_law_2653 dL_law_2654 dL_law_2657 dL_law_2659 dL_law_2664 dL_law_2666 dL_law_2669 dL_law_2670 dL_law_2671 dL_law_2672 dL_law_2674 dL_law_2675 dL_law_2680 (by decide) ?_
  exact l_next K
theorem l_case45 (hi : i + 6 ≤ n) (hn : n ≤ 3072) (hc : f i &&& 63 = 45) {k : Int32} {d2 mc2 ms2 : Nat} (h2 : d2 + 1 ≤ d) (hmc : mc2 ≤ 1) (hms : ms2 ≤ 6) (hW : zMW (n, f) yL_storedLeast cL_storedLeast 4 (some .int) d2 mc2 ms2 [.ref 0, .int (f (i + 1)), .ref 115] (WL S X R T P TU q G TN fl) (some (.int k)) (WL S' X' R' T' P' TU' q' G' TN' fl')) {b : Int32} {d3 : Nat} (h3 : d3 + 1 ≤ d) (hm : zM (n, f) yX7_storedLeast cX7_storedLeast 2 (some .int) d3 0 0 [.ref 0, .int (f (i + 1))] (mh M) (.inl (some (.int b))) (mh M')) (hk : M'.1 15 = k) (hb : k = 0 → fl' 0 = b.toInt64)
    (K : Z (n, f) yL_law cL_law 9 (some .boolean) d mc ms 28 (some (.ref 1000202) :: some (.ref 0) :: some (.ref 117) :: some (.ref 115) :: some (.ref 116) :: some (.int (nI (i + 6))) :: [none, none, none]) [] (LH S' X' R' T' P' TU' q' G' TN' fl' fd n f M') r h') : Z (n, f) yL_law cL_law 9 (some .boolean) d (mc + 1) (ms + 6) 28 (some (.ref 1000202) :: some (.ref 0) :: some (.ref 117) :: some (.ref 115) :: some (.ref 116) :: some (.int (nI (i))) :: [none, none, none]) [] (LH S X R T P TU q G TN fl fd n f M) r h' := by
  refine l_head hi hn ?_
  rw [hc]
  refine z_tabIn (tgt := 2683) dL_law_45 (by decide) (by decide) rfl (by decide) ?_
  refine z_aload_1 dL_law_2683 ?_
  refine l_arg (j := 1) hi hn (by decide) (by decide) dL_law_2684 dL_law_2685 dL_law_2687 dL_law_2688 dL_law_2689 ?_
  refine z_aload_3 dL_law_2690 ?_
  refine Z.more (mc := mc + mc2) (ms := ms + ms2) (by omega) (by omega) ?_
  refine l_wr (st := []) hW dL_law_2691 zy_L_storedLeast zm_L_328 rfl (by decide) h2 (by decide) ?_
  refine z_istore_6 dL_law_2694 rfl (by decide) ?_
  refine z_aload_2 dL_law_2696 ?_
  refine l_arg (j := 1) hi hn (by decide) (by decide) dL_law_2697 dL_law_2698 dL_law_2700 dL_law_2701 dL_law_2702 ?_
  refine l_m7 (As := [.int (f (i + 1))]) (st := []) hm dL_law_2703 zy_X7_storedLeast zm_L_330 rfl rfl rfl rfl (Nat.le_of_ble_eq_true rfl) h3 (by decide) ?_
  refine z_istore_7 dL_law_2706 rfl (by decide) ?_
  refine l_tailI hk hb (by omega) dL_law_2708 dL_law_2709 dL_law_2712 dL_law_2714 dL_law_2719 dL_law_2721 dL_law_2724 dL_law_2725 dL_law_2726 dL_law_2727 dL_law_2729 dL_law_2730 dL_law_2731 dL_law_2736 (by decide) ?_
  exact l_next K
theorem l_case46 (hi : i + 6 ≤ n) (hn : n ≤ 3072) (hc : f i &&& 63 = 46) {k : Int32} {d2 mc2 ms2 : Nat} (h2 : d2 + 1 ≤ d) (hmc : mc2 ≤ 1) (hms : ms2 ≤ 6) (hW : zMW (n, f) yL_storedGreatest cL_storedGreatest 4 (some .int) d2 mc2 ms2 [.ref 0, .int (f (i + 1)), .ref 115] (WL S X R T P TU q G TN fl) (some (.int k)) (WL S' X' R' T' P' TU' q' G' TN' fl')) {b : Int32} {d3 : Nat} (h3 : d3 + 1 ≤ d) (hm : zM (n, f) yX7_storedGreatest cX7_storedGreatest 2 (some .int) d3 0 0 [.ref 0, .int (f (i + 1))] (mh M) (.inl (some (.int b))) (mh M')) (hk : M'.1 15 = k) (hb : k = 0 → fl' 0 = b.toInt64)
    (K : Z (n, f) yL_law cL_law 9 (some .boolean) d mc ms 28 (some (.ref 1000202) :: some (.ref 0) :: some (.ref 117) :: some (.ref 115) :: some (.ref 116) :: some (.int (nI (i + 6))) :: [none, none, none]) [] (LH S' X' R' T' P' TU' q' G' TN' fl' fd n f M') r h') : Z (n, f) yL_law cL_law 9 (some .boolean) d (mc + 1) (ms + 6) 28 (some (.ref 1000202) :: some (.ref 0) :: some (.ref 117) :: some (.ref 115) :: some (.ref 116) :: some (.int (nI (i))) :: [none, none, none]) [] (LH S X R T P TU q G TN fl fd n f M) r h' := by
  refine l_head hi hn ?_
  rw [hc]
  refine z_tabIn (tgt := 2739) dL_law_45 (by decide) (by decide) rfl (by decide) ?_
  refine z_aload_1 dL_law_2739 ?_
  refine l_arg (j := 1) hi hn (by decide) (by decide) dL_law_2740 dL_law_2741 dL_law_2743 dL_law_2744 dL_law_2745 ?_
  refine z_aload_3 dL_law_2746 ?_
  refine Z.more (mc := mc + mc2) (ms := ms + ms2) (by omega) (by omega) ?_
  refine l_wr (st := []) hW dL_law_2747 zy_L_storedGreatest zm_L_331 rfl (by decide) h2 (by decide) ?_
  refine z_istore_6 dL_law_2750 rfl (by decide) ?_
  refine z_aload_2 dL_law_2752 ?_
  refine l_arg (j := 1) hi hn (by decide) (by decide) dL_law_2753 dL_law_2754 dL_law_2756 dL_law_2757 dL_law_2758 ?_
  refine l_m7 (As := [.int (f (i + 1))]) (st := []) hm dL_law_2759 zy_X7_storedGreatest zm_L_333 rfl rfl rfl rfl (Nat.le_of_ble_eq_true rfl) h3 (by decide) ?_
  refine z_istore_7 dL_law_2762 rfl (by decide) ?_
  refine l_tailI hk hb (by omega) dL_law_2764 dL_law_2765 dL_law_2768 dL_law_2770 dL_law_2775 dL_law_2777 dL_law_2780 dL_law_2781 dL_law_2782 dL_law_2783 dL_law_2785 dL_law_2786 dL_law_2787 dL_law_2792 (by decide) ?_
  exact l_next K
theorem l_case47 (hi : i + 6 ≤ n) (hn : n ≤ 3072) (hc : f i &&& 63 = 47) {k : Int32} {d2 mc2 ms2 : Nat} (h2 : d2 + 1 ≤ d) (hmc : mc2 ≤ 1) (hms : ms2 ≤ 6) (hW : zMW (n, f) yL_markFactor cL_markFactor 4 (some .int) d2 mc2 ms2 [.ref 0, .int (f (i + 1)), .ref 115] (WL S X R T P TU q G TN fl) (some (.int k)) (WL S' X' R' T' P' TU' q' G' TN' fl')) {b : Int32} {d3 : Nat} (h3 : d3 + 1 ≤ d) (hm : zM (n, f) yX7_markFactor cX7_markFactor 2 (some .int) d3 0 0 [.ref 0, .int (f (i + 1))] (mh M) (.inl (some (.int b))) (mh M')) (hk : M'.1 15 = k) (hb : k = 0 → fl' 0 = b.toInt64)
    (K : Z (n, f) yL_law cL_law 9 (some .boolean) d mc ms 28 (some (.ref 1000202) :: some (.ref 0) :: some (.ref 117) :: some (.ref 115) :: some (.ref 116) :: some (.int (nI (i + 6))) :: [none, none, none]) [] (LH S' X' R' T' P' TU' q' G' TN' fl' fd n f M') r h') : Z (n, f) yL_law cL_law 9 (some .boolean) d (mc + 1) (ms + 6) 28 (some (.ref 1000202) :: some (.ref 0) :: some (.ref 117) :: some (.ref 115) :: some (.ref 116) :: some (.int (nI (i))) :: [none, none, none]) [] (LH S X R T P TU q G TN fl fd n f M) r h' := by
  refine l_head hi hn ?_
  rw [hc]
  refine z_tabIn (tgt := 2795) dL_law_45 (by decide) (by decide) rfl (by decide) ?_
  refine z_aload_1 dL_law_2795 ?_
  refine l_arg (j := 1) hi hn (by decide) (by decide) dL_law_2796 dL_law_2797 dL_law_2799 dL_law_2800 dL_law_2801 ?_
  refine z_aload_3 dL_law_2802 ?_
  refine Z.more (mc := mc + mc2) (ms := ms + ms2) (by omega) (by omega) ?_
  refine l_wr (st := []) hW dL_law_2803 zy_L_markFactor zm_L_334 rfl (by decide) h2 (by decide) ?_
  refine z_istore_6 dL_law_2806 rfl (by decide) ?_
  refine z_aload_2 dL_law_2808 ?_
  refine l_arg (j := 1) hi hn (by decide) (by decide) dL_law_2809 dL_law_2810 dL_law_2812 dL_law_2813 dL_law_2814 ?_
  refine l_m7 (As := [.int (f (i + 1))]) (st := []) hm dL_law_2815 zy_X7_markFactor zm_L_336 rfl rfl rfl rfl (Nat.le_of_ble_eq_true rfl) h3 (by decide) ?_
  refine z_istore_7 dL_law_2818 rfl (by decide) ?_
  refine l_tailI hk hb (by omega) dL_law_2820 dL_law_2821 dL_law_2824 dL_law_2826 dL_law_2831 dL_law_2833 dL_law_2836 dL_law_2837 dL_law_2838 dL_law_2839 dL_law_2841 dL_law_2842 dL_law_2843 dL_law_2848 (by decide) ?_
  exact l_next K
end LAWC
