section LAW3
variable {p : Program} {l : Launch} {e : Env} {s : State} {m : MethodId} {below : List Frame} {meth : Method} {c : Code} {n : Nat} {i : Int} {X : KX} {cJ : ClassId} {kS : Nat → Nat} {b L : Nat} {xs : Nat → Int32}
variable {ad pa pb qa qb ra rb : Nat → Nat} {ha hb : Nat → Nat → Nat} {d rr : Nat → Nat} {oa : Nat}
set_option maxHeartbeats 1000000 in
set_option maxRecDepth 100000 in
theorem st_paymentsTo (G : LF p l s m meth c b L xs X cJ kS) (hi : 0 ≤ i ∧ i + 6 ≤ L) (hn : n < 1000) (k : GO p l e s m below meth c b X cJ ad pa pb qa qb ra rb ha hb d rr oa i n 3317) : GO p l e s m below meth c b X cJ ad pa pb qa qb ra rb ha hb d rr oa i (n + 1) 2134 := by
  intro Z g Y H locs ls hS hw hl
  have E := G.1
  refine lv_aload_n E.1 E.2.1 dL_law_2134 rfl (lv_at hl 3 rfl) ?_
  refine lz_rd (i := i) (j := 1) G hw (by omega) (lv_at hl 4 rfl) (lv_at hl 0 rfl) dL_law_2135 dL_law_2136 dL_law_2138 dL_law_2139 dL_law_2140 ?_
  refine lz_rd (i := i) (j := 2) G hw (by omega) (lv_at hl 4 rfl) (lv_at hl 0 rfl) dL_law_2141 dL_law_2142 dL_law_2144 dL_law_2145 dL_law_2146 ?_
  refine lv_aload_n E.1 E.2.1 dL_law_2147 rfl (lv_at hl 1 rfl) ?_
  refine lz_cL (rest := []) G hw (kL_paymentsTo l X cJ kS G.2.2.2.2.2.2.2.2.1 ad pa pb qa qb ra rb ha hb Z Y hS (xz xs (i + 1)) (xz xs (i + 2)) (i32_of _) (i32_of _) oa g) (vx_cwSW 4 E.2.2.2.2 gL_law_L_paymentsTo rfl rfl rfl (by decide +kernel) ⟨Nat.le_of_ble_eq_true rfl, Nat.le_of_ble_eq_true rfl⟩) hl.1 rfl rfl (Nat.le_of_ble_eq_true rfl) dL_law_2148 ⟨by show 601024 - 10 * (n + 1) + 2 ≤ 601024; omega, by show 7293034 - 60 * (n + 1) + 12 ≤ 7293034; omega⟩ (fun k9 Z9 g9 H locs hF7 hw => ?_)
  have hkr : 0 ≤ k9 ∧ k9 ≤ 3 := by
    rcases hF7 with ⟨h, -⟩ | ⟨h, -⟩ | ⟨h, -⟩ <;> omega
  refine lv_istore (lv' := (5, .int (iI k9)) :: LVi b ad d oa i) E.1 E.2.1 dL_law_2151 hl (by decide) rfl (fun ls hl => ?_)
  refine lv_aload_n E.1 E.2.1 dL_law_2153 rfl (lv_at hl 3 rfl) ?_
  refine lz_rd (i := i) (j := 1) G hw (by omega) (lv_at hl 5 rfl) (lv_at hl 1 rfl) dL_law_2154 dL_law_2155 dL_law_2157 dL_law_2158 dL_law_2159 ?_
  refine lz_rd (i := i) (j := 2) G hw (by omega) (lv_at hl 5 rfl) (lv_at hl 1 rfl) dL_law_2160 dL_law_2161 dL_law_2163 dL_law_2164 dL_law_2165 ?_
  refine lz_c8 (rest := []) G hw (vX8_paymentsTo l X d rr Z Y hS (xz xs (i + 1)) (xz xs (i + 2)) (i32_of _) (i32_of _)).toE (cwV 2 E.2.2.2.2 gL_law_X8_paymentsTo rfl rfl rfl (by decide +kernel) ⟨Nat.le_of_ble_eq_true rfl, Nat.le_of_ble_eq_true rfl⟩) hl.1 rfl rfl (Nat.le_of_ble_eq_true rfl) dL_law_2166 ⟨by show 601024 - 10 * (n + 1) + 2 + 0 ≤ 601024; omega, by show 7293034 - 60 * (n + 1) + 12 + 0 ≤ 7293034; omega⟩ (fun b9 Y9 H locs hF8 hw => ?_)
  exact lz_tail G ⟨dL_law_2169, dL_law_2171, dL_law_2172, dL_law_2175, dL_law_2177, dL_law_2182⟩ ⟨dL_law_2184, dL_law_2187, dL_law_2188, dL_law_2189, dL_law_2190, dL_law_2192, dL_law_2193, dL_law_2194⟩ dL_law_2199 rfl hkr (J_paymentsTo hS  hF7 hF8) hw hl k (by omega) (by omega)
set_option maxHeartbeats 1000000 in
set_option maxRecDepth 100000 in
theorem st_balanceAfter (G : LF p l s m meth c b L xs X cJ kS) (hi : 0 ≤ i ∧ i + 6 ≤ L) (hn : n < 1000) (k : GO p l e s m below meth c b X cJ ad pa pb qa qb ra rb ha hb d rr oa i n 3317) : GO p l e s m below meth c b X cJ ad pa pb qa qb ra rb ha hb d rr oa i (n + 1) 2202 := by
  intro Z g Y H locs ls hS hw hl
  have E := G.1
  refine lv_aload_n E.1 E.2.1 dL_law_2202 rfl (lv_at hl 3 rfl) ?_
  refine lz_rd (i := i) (j := 1) G hw (by omega) (lv_at hl 4 rfl) (lv_at hl 0 rfl) dL_law_2203 dL_law_2204 dL_law_2206 dL_law_2207 dL_law_2208 ?_
  refine lz_rd (i := i) (j := 2) G hw (by omega) (lv_at hl 4 rfl) (lv_at hl 0 rfl) dL_law_2209 dL_law_2210 dL_law_2212 dL_law_2213 dL_law_2214 ?_
  refine lv_aload_n E.1 E.2.1 dL_law_2215 rfl (lv_at hl 1 rfl) ?_
  refine lz_cL (rest := []) G hw (kL_balanceAfter l X cJ kS G.2.2.2.2.2.2.2.2.1 ad pa pb qa qb ra rb ha hb Z Y hS (xz xs (i + 1)) (xz xs (i + 2)) (i32_of _) (i32_of _) oa g) (vx_cwSW 4 E.2.2.2.2 gL_law_L_balanceAfter rfl rfl rfl (by decide +kernel) ⟨Nat.le_of_ble_eq_true rfl, Nat.le_of_ble_eq_true rfl⟩) hl.1 rfl rfl (Nat.le_of_ble_eq_true rfl) dL_law_2216 ⟨by show 601024 - 10 * (n + 1) + 2 ≤ 601024; omega, by show 7293034 - 60 * (n + 1) + 12 ≤ 7293034; omega⟩ (fun k9 Z9 g9 H locs hF7 hw => ?_)
  have hkr : 0 ≤ k9 ∧ k9 ≤ 3 := by
    rcases hF7 with ⟨h, -⟩ | ⟨h, -⟩ | ⟨h, -⟩ <;> omega
  refine lv_istore (lv' := (5, .int (iI k9)) :: LVi b ad d oa i) E.1 E.2.1 dL_law_2219 hl (by decide) rfl (fun ls hl => ?_)
  refine lv_aload_n E.1 E.2.1 dL_law_2221 rfl (lv_at hl 3 rfl) ?_
  refine lz_rd (i := i) (j := 1) G hw (by omega) (lv_at hl 5 rfl) (lv_at hl 1 rfl) dL_law_2222 dL_law_2223 dL_law_2225 dL_law_2226 dL_law_2227 ?_
  refine lz_rd (i := i) (j := 2) G hw (by omega) (lv_at hl 5 rfl) (lv_at hl 1 rfl) dL_law_2228 dL_law_2229 dL_law_2231 dL_law_2232 dL_law_2233 ?_
  refine lz_c8 (rest := []) G hw (vX8_balanceAfter l X d rr Z Y hS (xz xs (i + 1)) (xz xs (i + 2)) (i32_of _) (i32_of _)).toE (cwV 2 E.2.2.2.2 gL_law_X8_balanceAfter rfl rfl rfl (by decide +kernel) ⟨Nat.le_of_ble_eq_true rfl, Nat.le_of_ble_eq_true rfl⟩) hl.1 rfl rfl (Nat.le_of_ble_eq_true rfl) dL_law_2234 ⟨by show 601024 - 10 * (n + 1) + 2 + 0 ≤ 601024; omega, by show 7293034 - 60 * (n + 1) + 12 + 0 ≤ 7293034; omega⟩ (fun b9 Y9 H locs hF8 hw => ?_)
  exact lz_tail G ⟨dL_law_2237, dL_law_2239, dL_law_2240, dL_law_2243, dL_law_2245, dL_law_2250⟩ ⟨dL_law_2252, dL_law_2255, dL_law_2256, dL_law_2257, dL_law_2258, dL_law_2260, dL_law_2261, dL_law_2262⟩ dL_law_2267 rfl hkr (J_balanceAfter hS  hF7 hF8) hw hl k (by omega) (by omega)
set_option maxHeartbeats 1000000 in
set_option maxRecDepth 100000 in
theorem st_interestAhead (G : LF p l s m meth c b L xs X cJ kS) (hi : 0 ≤ i ∧ i + 6 ≤ L) (hn : n < 1000) (k : GO p l e s m below meth c b X cJ ad pa pb qa qb ra rb ha hb d rr oa i n 3317) : GO p l e s m below meth c b X cJ ad pa pb qa qb ra rb ha hb d rr oa i (n + 1) 2270 := by
  intro Z g Y H locs ls hS hw hl
  have E := G.1
  refine lv_aload_n E.1 E.2.1 dL_law_2270 rfl (lv_at hl 3 rfl) ?_
  refine lz_rd (i := i) (j := 1) G hw (by omega) (lv_at hl 4 rfl) (lv_at hl 0 rfl) dL_law_2271 dL_law_2272 dL_law_2274 dL_law_2275 dL_law_2276 ?_
  refine lv_aload_n E.1 E.2.1 dL_law_2277 rfl (lv_at hl 1 rfl) ?_
  refine lz_cL (rest := []) G hw (kL_interestAhead l X cJ kS G.2.2.2.2.2.2.2.2.1 ad pa pb qa qb ra rb ha hb Z Y hS (xz xs (i + 1)) (i32_of _) oa g) (vx_cwSW 3 E.2.2.2.2 gL_law_L_interestAhead rfl rfl rfl (by decide +kernel) ⟨Nat.le_of_ble_eq_true rfl, Nat.le_of_ble_eq_true rfl⟩) hl.1 rfl rfl (Nat.le_of_ble_eq_true rfl) dL_law_2278 ⟨by show 601024 - 10 * (n + 1) + 1 ≤ 601024; omega, by show 7293034 - 60 * (n + 1) + 6 ≤ 7293034; omega⟩ (fun k9 Z9 g9 H locs hF7 hw => ?_)
  have hkr : 0 ≤ k9 ∧ k9 ≤ 3 := by
    rcases hF7 with ⟨h, -⟩ | ⟨h, -⟩ <;> omega
  refine lv_istore (lv' := (5, .int (iI k9)) :: LVi b ad d oa i) E.1 E.2.1 dL_law_2281 hl (by decide) rfl (fun ls hl => ?_)
  refine lv_aload_n E.1 E.2.1 dL_law_2283 rfl (lv_at hl 3 rfl) ?_
  refine lz_rd (i := i) (j := 1) G hw (by omega) (lv_at hl 5 rfl) (lv_at hl 1 rfl) dL_law_2284 dL_law_2285 dL_law_2287 dL_law_2288 dL_law_2289 ?_
  refine lz_c8 (rest := []) G hw (vX8_interestAhead l X d rr Z Y hS (xz xs (i + 1)) (i32_of _)).toE (cwV 1 E.2.2.2.2 gL_law_X8_interestAhead rfl rfl rfl (by decide +kernel) ⟨Nat.le_of_ble_eq_true rfl, Nat.le_of_ble_eq_true rfl⟩) hl.1 rfl rfl (Nat.le_of_ble_eq_true rfl) dL_law_2290 ⟨by show 601024 - 10 * (n + 1) + 1 + 0 ≤ 601024; omega, by show 7293034 - 60 * (n + 1) + 6 + 0 ≤ 7293034; omega⟩ (fun b9 Y9 H locs hF8 hw => ?_)
  exact lz_tail G ⟨dL_law_2293, dL_law_2295, dL_law_2296, dL_law_2299, dL_law_2301, dL_law_2306⟩ ⟨dL_law_2308, dL_law_2311, dL_law_2312, dL_law_2313, dL_law_2314, dL_law_2316, dL_law_2317, dL_law_2318⟩ dL_law_2323 rfl hkr (J_interestAhead hS  hF7 hF8) hw hl k (by omega) (by omega)
set_option maxHeartbeats 1000000 in
set_option maxRecDepth 100000 in
theorem st_lastDue (G : LF p l s m meth c b L xs X cJ kS) (hi : 0 ≤ i ∧ i + 6 ≤ L) (hn : n < 1000) (k : GO p l e s m below meth c b X cJ ad pa pb qa qb ra rb ha hb d rr oa i n 3317) : GO p l e s m below meth c b X cJ ad pa pb qa qb ra rb ha hb d rr oa i (n + 1) 2326 := by
  intro Z g Y H locs ls hS hw hl
  have E := G.1
  refine lv_aload_n E.1 E.2.1 dL_law_2326 rfl (lv_at hl 3 rfl) ?_
  refine lz_rd (i := i) (j := 1) G hw (by omega) (lv_at hl 4 rfl) (lv_at hl 0 rfl) dL_law_2327 dL_law_2328 dL_law_2330 dL_law_2331 dL_law_2332 ?_
  refine lv_aload_n E.1 E.2.1 dL_law_2333 rfl (lv_at hl 1 rfl) ?_
  refine lz_cL (rest := []) G hw (kL_lastDue l X cJ kS G.2.2.2.2.2.2.2.2.1 ad pa pb qa qb ra rb ha hb Z Y hS (xz xs (i + 1)) (i32_of _) oa g) (vx_cwSW 3 E.2.2.2.2 gL_law_L_lastDue rfl rfl rfl (by decide +kernel) ⟨Nat.le_of_ble_eq_true rfl, Nat.le_of_ble_eq_true rfl⟩) hl.1 rfl rfl (Nat.le_of_ble_eq_true rfl) dL_law_2334 ⟨by show 601024 - 10 * (n + 1) + 1 ≤ 601024; omega, by show 7293034 - 60 * (n + 1) + 6 ≤ 7293034; omega⟩ (fun k9 Z9 g9 H locs hF7 hw => ?_)
  have hkr : 0 ≤ k9 ∧ k9 ≤ 3 := by
    rcases hF7 with ⟨h, -⟩ | ⟨h, -⟩ <;> omega
  refine lv_istore (lv' := (5, .int (iI k9)) :: LVi b ad d oa i) E.1 E.2.1 dL_law_2337 hl (by decide) rfl (fun ls hl => ?_)
  refine lv_aload_n E.1 E.2.1 dL_law_2339 rfl (lv_at hl 3 rfl) ?_
  refine lz_rd (i := i) (j := 1) G hw (by omega) (lv_at hl 5 rfl) (lv_at hl 1 rfl) dL_law_2340 dL_law_2341 dL_law_2343 dL_law_2344 dL_law_2345 ?_
  refine lz_c8 (rest := []) G hw (vX8_lastDue l X d rr Z Y hS (xz xs (i + 1)) (i32_of _)).toE (cwV 1 E.2.2.2.2 gL_law_X8_lastDue rfl rfl rfl (by decide +kernel) ⟨Nat.le_of_ble_eq_true rfl, Nat.le_of_ble_eq_true rfl⟩) hl.1 rfl rfl (Nat.le_of_ble_eq_true rfl) dL_law_2346 ⟨by show 601024 - 10 * (n + 1) + 1 + 0 ≤ 601024; omega, by show 7293034 - 60 * (n + 1) + 6 + 0 ≤ 7293034; omega⟩ (fun b9 Y9 H locs hF8 hw => ?_)
  exact lz_tail G ⟨dL_law_2349, dL_law_2351, dL_law_2352, dL_law_2355, dL_law_2357, dL_law_2362⟩ ⟨dL_law_2364, dL_law_2367, dL_law_2368, dL_law_2369, dL_law_2370, dL_law_2372, dL_law_2373, dL_law_2374⟩ dL_law_2379 rfl hkr (J_lastDue hS  hF7 hF8) hw hl k (by omega) (by omega)
set_option maxHeartbeats 1000000 in
set_option maxRecDepth 100000 in
theorem st_monthsToHalf (G : LF p l s m meth c b L xs X cJ kS) (hi : 0 ≤ i ∧ i + 6 ≤ L) (hn : n < 1000) (k : GO p l e s m below meth c b X cJ ad pa pb qa qb ra rb ha hb d rr oa i n 3317) : GO p l e s m below meth c b X cJ ad pa pb qa qb ra rb ha hb d rr oa i (n + 1) 2382 := by
  intro Z g Y H locs ls hS hw hl
  have E := G.1
  refine lv_aload_n E.1 E.2.1 dL_law_2382 rfl (lv_at hl 3 rfl) ?_
  refine lz_rd (i := i) (j := 1) G hw (by omega) (lv_at hl 4 rfl) (lv_at hl 0 rfl) dL_law_2383 dL_law_2384 dL_law_2386 dL_law_2387 dL_law_2388 ?_
  refine lv_aload_n E.1 E.2.1 dL_law_2389 rfl (lv_at hl 1 rfl) ?_
  refine lz_cL (rest := []) G hw (kL_monthsToHalf l X cJ kS G.2.2.2.2.2.2.2.2.1 ad pa pb qa qb ra rb ha hb Z Y hS (xz xs (i + 1)) (i32_of _) oa g) (vx_cwSW 3 E.2.2.2.2 gL_law_L_monthsToHalf rfl rfl rfl (by decide +kernel) ⟨Nat.le_of_ble_eq_true rfl, Nat.le_of_ble_eq_true rfl⟩) hl.1 rfl rfl (Nat.le_of_ble_eq_true rfl) dL_law_2390 ⟨by show 601024 - 10 * (n + 1) + 1 ≤ 601024; omega, by show 7293034 - 60 * (n + 1) + 6 ≤ 7293034; omega⟩ (fun k9 Z9 g9 H locs hF7 hw => ?_)
  have hkr : 0 ≤ k9 ∧ k9 ≤ 3 := by
    rcases hF7 with ⟨h, -⟩ | ⟨h, -⟩ <;> omega
  refine lv_istore (lv' := (5, .int (iI k9)) :: LVi b ad d oa i) E.1 E.2.1 dL_law_2393 hl (by decide) rfl (fun ls hl => ?_)
  refine lv_aload_n E.1 E.2.1 dL_law_2395 rfl (lv_at hl 3 rfl) ?_
  refine lz_rd (i := i) (j := 1) G hw (by omega) (lv_at hl 5 rfl) (lv_at hl 1 rfl) dL_law_2396 dL_law_2397 dL_law_2399 dL_law_2400 dL_law_2401 ?_
  refine lz_c8 (rest := []) G hw (vX8_monthsToHalf l X d rr Z Y hS (xz xs (i + 1)) (i32_of _)).toE (cwV 1 E.2.2.2.2 gL_law_X8_monthsToHalf rfl rfl rfl (by decide +kernel) ⟨Nat.le_of_ble_eq_true rfl, Nat.le_of_ble_eq_true rfl⟩) hl.1 rfl rfl (Nat.le_of_ble_eq_true rfl) dL_law_2402 ⟨by show 601024 - 10 * (n + 1) + 1 + 0 ≤ 601024; omega, by show 7293034 - 60 * (n + 1) + 6 + 0 ≤ 7293034; omega⟩ (fun b9 Y9 H locs hF8 hw => ?_)
  exact lz_tail G ⟨dL_law_2405, dL_law_2407, dL_law_2408, dL_law_2411, dL_law_2413, dL_law_2418⟩ ⟨dL_law_2420, dL_law_2423, dL_law_2424, dL_law_2425, dL_law_2426, dL_law_2428, dL_law_2429, dL_law_2430⟩ dL_law_2435 rfl hkr (J_monthsToHalf hS  hF7 hF8) hw hl k (by omega) (by omega)
set_option maxHeartbeats 1000000 in
set_option maxRecDepth 100000 in
theorem st_installmentFor (G : LF p l s m meth c b L xs X cJ kS) (hi : 0 ≤ i ∧ i + 6 ≤ L) (hn : n < 1000) (k : GO p l e s m below meth c b X cJ ad pa pb qa qb ra rb ha hb d rr oa i n 3317) : GO p l e s m below meth c b X cJ ad pa pb qa qb ra rb ha hb d rr oa i (n + 1) 2438 := by
  intro Z g Y H locs ls hS hw hl
  have E := G.1
  refine lv_aload_n E.1 E.2.1 dL_law_2438 rfl (lv_at hl 3 rfl) ?_
  refine lz_rd (i := i) (j := 1) G hw (by omega) (lv_at hl 4 rfl) (lv_at hl 0 rfl) dL_law_2439 dL_law_2440 dL_law_2442 dL_law_2443 dL_law_2444 ?_
  refine lz_rd (i := i) (j := 2) G hw (by omega) (lv_at hl 4 rfl) (lv_at hl 0 rfl) dL_law_2445 dL_law_2446 dL_law_2448 dL_law_2449 dL_law_2450 ?_
  refine lv_aload_n E.1 E.2.1 dL_law_2451 rfl (lv_at hl 1 rfl) ?_
  refine lz_cL (rest := []) G hw (kL_installmentFor l X cJ kS G.2.2.2.2.2.2.2.2.1 ad pa pb qa qb ra rb ha hb Z Y hS (xz xs (i + 1)) (xz xs (i + 2)) (i32_of _) (i32_of _) oa g) (vx_cwSW 4 E.2.2.2.2 gL_law_L_installmentFor rfl rfl rfl (by decide +kernel) ⟨Nat.le_of_ble_eq_true rfl, Nat.le_of_ble_eq_true rfl⟩) hl.1 rfl rfl (Nat.le_of_ble_eq_true rfl) dL_law_2452 ⟨by show 601024 - 10 * (n + 1) + 2 ≤ 601024; omega, by show 7293034 - 60 * (n + 1) + 12 ≤ 7293034; omega⟩ (fun k9 Z9 g9 H locs hF7 hw => ?_)
  have hkr : 0 ≤ k9 ∧ k9 ≤ 3 := by
    rcases hF7 with ⟨h, -⟩ | ⟨h, -⟩ | ⟨h, -⟩ <;> omega
  refine lv_istore (lv' := (5, .int (iI k9)) :: LVi b ad d oa i) E.1 E.2.1 dL_law_2455 hl (by decide) rfl (fun ls hl => ?_)
  refine lv_aload_n E.1 E.2.1 dL_law_2457 rfl (lv_at hl 3 rfl) ?_
  refine lz_rd (i := i) (j := 1) G hw (by omega) (lv_at hl 5 rfl) (lv_at hl 1 rfl) dL_law_2458 dL_law_2459 dL_law_2461 dL_law_2462 dL_law_2463 ?_
  refine lz_rd (i := i) (j := 2) G hw (by omega) (lv_at hl 5 rfl) (lv_at hl 1 rfl) dL_law_2464 dL_law_2465 dL_law_2467 dL_law_2468 dL_law_2469 ?_
  refine lz_c8 (rest := []) G hw (vX8_installmentFor l X d rr Z Y hS (xz xs (i + 1)) (xz xs (i + 2)) (i32_of _) (i32_of _)).toE (cwV 2 E.2.2.2.2 gL_law_X8_installmentFor rfl rfl rfl (by decide +kernel) ⟨Nat.le_of_ble_eq_true rfl, Nat.le_of_ble_eq_true rfl⟩) hl.1 rfl rfl (Nat.le_of_ble_eq_true rfl) dL_law_2470 ⟨by show 601024 - 10 * (n + 1) + 2 + 0 ≤ 601024; omega, by show 7293034 - 60 * (n + 1) + 12 + 0 ≤ 7293034; omega⟩ (fun b9 Y9 H locs hF8 hw => ?_)
  exact lz_tail G ⟨dL_law_2473, dL_law_2475, dL_law_2476, dL_law_2479, dL_law_2481, dL_law_2486⟩ ⟨dL_law_2488, dL_law_2491, dL_law_2492, dL_law_2493, dL_law_2494, dL_law_2496, dL_law_2497, dL_law_2498⟩ dL_law_2503 rfl hkr (J_installmentFor hS  hF7 hF8) hw hl k (by omega) (by omega)
set_option maxHeartbeats 1000000 in
set_option maxRecDepth 100000 in
theorem st_monthsFor (G : LF p l s m meth c b L xs X cJ kS) (hi : 0 ≤ i ∧ i + 6 ≤ L) (hn : n < 1000) (k : GO p l e s m below meth c b X cJ ad pa pb qa qb ra rb ha hb d rr oa i n 3317) : GO p l e s m below meth c b X cJ ad pa pb qa qb ra rb ha hb d rr oa i (n + 1) 2506 := by
  intro Z g Y H locs ls hS hw hl
  have E := G.1
  refine lv_aload_n E.1 E.2.1 dL_law_2506 rfl (lv_at hl 3 rfl) ?_
  refine lz_rd (i := i) (j := 1) G hw (by omega) (lv_at hl 4 rfl) (lv_at hl 0 rfl) dL_law_2507 dL_law_2508 dL_law_2510 dL_law_2511 dL_law_2512 ?_
  refine lz_rd (i := i) (j := 2) G hw (by omega) (lv_at hl 4 rfl) (lv_at hl 0 rfl) dL_law_2513 dL_law_2514 dL_law_2516 dL_law_2517 dL_law_2518 ?_
  refine lv_aload_n E.1 E.2.1 dL_law_2519 rfl (lv_at hl 1 rfl) ?_
  refine lz_cL (rest := []) G hw (kL_monthsFor l X cJ kS G.2.2.2.2.2.2.2.2.1 ad pa pb qa qb ra rb ha hb Z Y hS (xz xs (i + 1)) (xz xs (i + 2)) (i32_of _) (i32_of _) oa g) (vx_cwSW 4 E.2.2.2.2 gL_law_L_monthsFor rfl rfl rfl (by decide +kernel) ⟨Nat.le_of_ble_eq_true rfl, Nat.le_of_ble_eq_true rfl⟩) hl.1 rfl rfl (Nat.le_of_ble_eq_true rfl) dL_law_2520 ⟨by show 601024 - 10 * (n + 1) + 2 ≤ 601024; omega, by show 7293034 - 60 * (n + 1) + 12 ≤ 7293034; omega⟩ (fun k9 Z9 g9 H locs hF7 hw => ?_)
  have hkr : 0 ≤ k9 ∧ k9 ≤ 3 := by
    rcases hF7 with ⟨h, -⟩ | ⟨h, -⟩ | ⟨h, -⟩ <;> omega
  refine lv_istore (lv' := (5, .int (iI k9)) :: LVi b ad d oa i) E.1 E.2.1 dL_law_2523 hl (by decide) rfl (fun ls hl => ?_)
  refine lv_aload_n E.1 E.2.1 dL_law_2525 rfl (lv_at hl 3 rfl) ?_
  refine lz_rd (i := i) (j := 1) G hw (by omega) (lv_at hl 5 rfl) (lv_at hl 1 rfl) dL_law_2526 dL_law_2527 dL_law_2529 dL_law_2530 dL_law_2531 ?_
  refine lz_rd (i := i) (j := 2) G hw (by omega) (lv_at hl 5 rfl) (lv_at hl 1 rfl) dL_law_2532 dL_law_2533 dL_law_2535 dL_law_2536 dL_law_2537 ?_
  refine lz_c8 (rest := []) G hw (vX8_monthsFor l X d rr Z Y hS (xz xs (i + 1)) (xz xs (i + 2)) (i32_of _) (i32_of _)).toE (cwV 2 E.2.2.2.2 gL_law_X8_monthsFor rfl rfl rfl (by decide +kernel) ⟨Nat.le_of_ble_eq_true rfl, Nat.le_of_ble_eq_true rfl⟩) hl.1 rfl rfl (Nat.le_of_ble_eq_true rfl) dL_law_2538 ⟨by show 601024 - 10 * (n + 1) + 2 + 0 ≤ 601024; omega, by show 7293034 - 60 * (n + 1) + 12 + 0 ≤ 7293034; omega⟩ (fun b9 Y9 H locs hF8 hw => ?_)
  exact lz_tail G ⟨dL_law_2541, dL_law_2543, dL_law_2544, dL_law_2547, dL_law_2549, dL_law_2554⟩ ⟨dL_law_2556, dL_law_2559, dL_law_2560, dL_law_2561, dL_law_2562, dL_law_2564, dL_law_2565, dL_law_2566⟩ dL_law_2571 rfl hkr (J_monthsFor hS  hF7 hF8) hw hl k (by omega) (by omega)
set_option maxHeartbeats 1000000 in
set_option maxRecDepth 100000 in
theorem st_savingOfExtra (G : LF p l s m meth c b L xs X cJ kS) (hi : 0 ≤ i ∧ i + 6 ≤ L) (hn : n < 1000) (k : GO p l e s m below meth c b X cJ ad pa pb qa qb ra rb ha hb d rr oa i n 3317) : GO p l e s m below meth c b X cJ ad pa pb qa qb ra rb ha hb d rr oa i (n + 1) 2574 := by
  intro Z g Y H locs ls hS hw hl
  have E := G.1
  refine lv_aload_n E.1 E.2.1 dL_law_2574 rfl (lv_at hl 3 rfl) ?_
  refine lz_rd (i := i) (j := 1) G hw (by omega) (lv_at hl 4 rfl) (lv_at hl 0 rfl) dL_law_2575 dL_law_2576 dL_law_2578 dL_law_2579 dL_law_2580 ?_
  refine lz_rd (i := i) (j := 2) G hw (by omega) (lv_at hl 4 rfl) (lv_at hl 0 rfl) dL_law_2581 dL_law_2582 dL_law_2584 dL_law_2585 dL_law_2586 ?_
  refine lz_rd (i := i) (j := 3) G hw (by omega) (lv_at hl 4 rfl) (lv_at hl 0 rfl) dL_law_2587 dL_law_2588 dL_law_2590 dL_law_2591 dL_law_2592 ?_
  refine lz_bo G (i32_of _) dL_law_2593 dL_law_2596 dL_law_2597 dL_law_2600 ?_
  refine lv_aload_n E.1 E.2.1 dL_law_2601 rfl (lv_at hl 1 rfl) ?_
  refine lz_cL (rest := []) G hw (kL_savingOfExtra l X cJ kS G.2.2.2.2.2.2.2.2.1 ad pa pb qa qb ra rb ha hb Z Y hS (xz xs (i + 1)) (xz xs (i + 2)) (bz (xz xs (i + 3))) (i32_of _) (i32_of _) (bz_r _) oa g) (vx_cwSW 5 E.2.2.2.2 gL_law_L_savingOfExtra rfl rfl rfl (by decide +kernel) ⟨Nat.le_of_ble_eq_true rfl, Nat.le_of_ble_eq_true rfl⟩) hl.1 rfl rfl (Nat.le_of_ble_eq_true rfl) dL_law_2602 ⟨by show 601024 - 10 * (n + 1) + 2 ≤ 601024; omega, by show 7293034 - 60 * (n + 1) + 12 ≤ 7293034; omega⟩ (fun k9 Z9 g9 H locs hF7 hw => ?_)
  have hkr : 0 ≤ k9 ∧ k9 ≤ 3 := by
    rcases hF7 with ⟨h, -⟩ | ⟨h, -⟩ | ⟨h, -⟩ <;> omega
  refine lv_istore (lv' := (5, .int (iI k9)) :: LVi b ad d oa i) E.1 E.2.1 dL_law_2605 hl (by decide) rfl (fun ls hl => ?_)
  refine lv_aload_n E.1 E.2.1 dL_law_2607 rfl (lv_at hl 3 rfl) ?_
  refine lz_rd (i := i) (j := 1) G hw (by omega) (lv_at hl 5 rfl) (lv_at hl 1 rfl) dL_law_2608 dL_law_2609 dL_law_2611 dL_law_2612 dL_law_2613 ?_
  refine lz_rd (i := i) (j := 2) G hw (by omega) (lv_at hl 5 rfl) (lv_at hl 1 rfl) dL_law_2614 dL_law_2615 dL_law_2617 dL_law_2618 dL_law_2619 ?_
  refine lz_rd (i := i) (j := 3) G hw (by omega) (lv_at hl 5 rfl) (lv_at hl 1 rfl) dL_law_2620 dL_law_2621 dL_law_2623 dL_law_2624 dL_law_2625 ?_
  refine lz_bo G (i32_of _) dL_law_2626 dL_law_2629 dL_law_2630 dL_law_2633 ?_
  refine lz_c8 (rest := []) G hw (vX8_savingOfExtra l X d rr Z Y hS (xz xs (i + 1)) (xz xs (i + 2)) (bz (xz xs (i + 3))) (i32_of _) (i32_of _) (bz_r _)).toE (cwV 3 E.2.2.2.2 gL_law_X8_savingOfExtra rfl rfl rfl (by decide +kernel) ⟨Nat.le_of_ble_eq_true rfl, Nat.le_of_ble_eq_true rfl⟩) hl.1 rfl rfl (Nat.le_of_ble_eq_true rfl) dL_law_2634 ⟨by show 601024 - 10 * (n + 1) + 2 + 0 ≤ 601024; omega, by show 7293034 - 60 * (n + 1) + 12 + 0 ≤ 7293034; omega⟩ (fun b9 Y9 H locs hF8 hw => ?_)
  exact lz_tail G ⟨dL_law_2637, dL_law_2639, dL_law_2640, dL_law_2643, dL_law_2645, dL_law_2650⟩ ⟨dL_law_2652, dL_law_2655, dL_law_2656, dL_law_2657, dL_law_2658, dL_law_2660, dL_law_2661, dL_law_2662⟩ dL_law_2667 rfl hkr (J_savingOfExtra hS (bz_r _) hF7 hF8) hw hl k (by omega) (by omega)
end LAW3
