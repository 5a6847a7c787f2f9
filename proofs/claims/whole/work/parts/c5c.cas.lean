/-! ===== the law, case by case: 32 to 47 ===== -/
section C5c
variable {G : p_G} {P : p_Zt} {k n : Nat} {h : p_H} {Yc Ym : Nat → Nat} {o1 o2 b N : Nat} {z : Int} {xs : Nat → Int32} {V Vm : Nat → Int} {C Cm : Nat → Int → Int} {J : c_J} {Jm : Int → Int}
theorem g_areEquivalentStates (hZ : p_Zs G) (hZn : p_Zn G) (hX : p_Scr G b N xs) (hN : N ≤ 3072) (hz : 0 ≤ z ∧ z + 6 ≤ N) (hL : lHp Yc Ym o1 o2 (V, C, J) (Vm, Cm, Jm) h) (hS : lSm V C J Vm Cm) (hEnd : ∀ X' Xm' h', lHp Yc Ym o1 o2 X' Xm' h' → lS X' Xm' → SL G mL_law P 100 k n h' 3438 (lL b (Yc 0) (Ym 38) o1 o2 z) []) : SL G mL_law P 100 (7 + k) (493 + n) h 2020 (lL b (Yc 0) (Ym 38) o1 o2 z) [] := by
  refine SL.room (d' := 100) (k' := 3 + k) (n' := 18 + n) (Nat.le_refl _) (by omega) (by omega) ?_
  refine y_aload_n dL_law_2020 rfl ?_
  refine y_arg (q := 1) hX hN hz (by decide) rfl rfl dL_law_2021 dL_law_2022 dL_law_2024 dL_law_2025 dL_law_2026 ?_
  refine y_arg (q := 2) hX hN hz (by decide) rfl rfl dL_law_2027 dL_law_2028 dL_law_2030 dL_law_2031 dL_law_2032 ?_
  refine y_arg (q := 3) hX hN hz (by decide) rfl rfl dL_law_2033 dL_law_2034 dL_law_2036 dL_law_2037 dL_law_2038 ?_
  refine y_aload_n dL_law_2039 rfl ?_
  refine y_cls (As := [_, _, _]) (cv := cvZ) (kd := kI) (Es := ["java/lang/IndexOutOfBoundsException"]) (mc := 3) (ms := 18) hL (fun v q => by obtain ⟨x, rfl⟩ := q; exact ⟨_, rfl⟩) (by decide) dL_law_2040 cfL_areEquivalentStates stL_areEquivalentStates lL_277 rfl rfl rfl rfl (fun hx kk => h_areEquivalentStates hx kk) (e_areEquivalentStates hZ hS (iI_rg _) (iI_rg _) (iI_rg _)) (fun X1 h1 k0 hL1 hR => ?_)
  refine y_istore (L' := lL6 b (Yc 0) (Ym 38) o1 o2 z k0) dL_law_2043 (by decide) rfl ?_
  refine y_aload_n dL_law_2045 rfl ?_
  refine y_arg (q := 1) hX hN hz (by decide) rfl rfl dL_law_2046 dL_law_2047 dL_law_2049 dL_law_2050 dL_law_2051 ?_
  refine y_arg (q := 2) hX hN hz (by decide) rfl rfl dL_law_2052 dL_law_2053 dL_law_2055 dL_law_2056 dL_law_2057 ?_
  refine y_arg (q := 3) hX hN hz (by decide) rfl rfl dL_law_2058 dL_law_2059 dL_law_2061 dL_law_2062 dL_law_2063 ?_
  refine y_mcl (As := [_, _, _]) (rest := []) hL1 hR dL_law_2064 cfX11_areEquivalentStates imX11_areEquivalentStates seX11_areEquivalentStates lL_279 rfl rfl rfl (Nat.zero_le _) (fun o Xm2 h2 hQ hL2 e1 e2 => ?_)
  obtain ⟨v, rfl, hv, ht, hS2, hg⟩ := hQ
  exact y_tlZ (pc := 2067) ⟨dL_law_2067, ⟨dL_law_2069, dL_law_2070, dL_law_2073, dL_law_2075, dL_law_2080⟩, dL_law_2082, dL_law_2085, dL_law_2086, dL_law_2087, dL_law_2088, dL_law_2090, dL_law_2093, dL_law_2094, dL_law_2097, dL_law_2098, dL_law_2099, _, dL_law_2104, by decide⟩ hL2 hS2 hv ht (fun y => by rw [e1]; exact hg y) (fun h3 hL3 => hEnd _ _ _ hL3 hS2)
theorem g_minimalStateCount (hZ : p_Zs G) (hZn : p_Zn G) (hX : p_Scr G b N xs) (hN : N ≤ 3072) (hz : 0 ≤ z ∧ z + 6 ≤ N) (hL : lHp Yc Ym o1 o2 (V, C, J) (Vm, Cm, Jm) h) (hS : lSm V C J Vm Cm) (hEnd : ∀ X' Xm' h', lHp Yc Ym o1 o2 X' Xm' h' → lS X' Xm' → SL G mL_law P 100 k n h' 3438 (lL b (Yc 0) (Ym 38) o1 o2 z) []) : SL G mL_law P 100 (7 + k) (493 + n) h 2107 (lL b (Yc 0) (Ym 38) o1 o2 z) [] := by
  refine SL.room (d' := 100) (k' := 1 + k) (n' := 6 + n) (Nat.le_refl _) (by omega) (by omega) ?_
  refine y_aload_n dL_law_2107 rfl ?_
  refine y_arg (q := 1) hX hN hz (by decide) rfl rfl dL_law_2108 dL_law_2109 dL_law_2111 dL_law_2112 dL_law_2113 ?_
  refine y_aload_n dL_law_2114 rfl ?_
  refine y_cls (As := [_]) (cv := cvI) (kd := kI) (Es := ["java/lang/IndexOutOfBoundsException"]) (mc := 1) (ms := 6) hL (fun v q => by obtain ⟨x, rfl⟩ := q; exact ⟨_, rfl⟩) (by decide) dL_law_2115 cfL_minimalStateCount stL_minimalStateCount lL_280 rfl rfl rfl rfl (fun hx kk => h_minimalStateCount hx kk) (e_minimalStateCount hZ hS (iI_rg _)) (fun X1 h1 k0 hL1 hR => ?_)
  refine y_istore (L' := lL6 b (Yc 0) (Ym 38) o1 o2 z k0) dL_law_2118 (by decide) rfl ?_
  refine y_aload_n dL_law_2120 rfl ?_
  refine y_arg (q := 1) hX hN hz (by decide) rfl rfl dL_law_2121 dL_law_2122 dL_law_2124 dL_law_2125 dL_law_2126 ?_
  refine y_mcl (As := [_]) (rest := []) hL1 hR dL_law_2127 cfX11_minimalStateCount imX11_minimalStateCount seX11_minimalStateCount lL_282 rfl rfl rfl (Nat.zero_le _) (fun o Xm2 h2 hQ hL2 e1 e2 => ?_)
  obtain ⟨v, rfl, hv, ht, hS2, hg⟩ := hQ
  exact y_tlI (pc := 2130) ⟨dL_law_2130, ⟨dL_law_2132, dL_law_2133, dL_law_2136, dL_law_2138, dL_law_2143⟩, dL_law_2145, dL_law_2148, dL_law_2149, dL_law_2150, dL_law_2151, dL_law_2153, dL_law_2154, dL_law_2155, _, dL_law_2160, by decide⟩ hL2 hS2 hv ht (fun y => by rw [e1]; exact hg y) (fun h3 hL3 => hEnd _ _ _ hL3 hS2)
theorem g_acceptsInput (hZ : p_Zs G) (hZn : p_Zn G) (hX : p_Scr G b N xs) (hN : N ≤ 3072) (hz : 0 ≤ z ∧ z + 6 ≤ N) (hL : lHp Yc Ym o1 o2 (V, C, J) (Vm, Cm, Jm) h) (hS : lSm V C J Vm Cm) (hEnd : ∀ X' Xm' h', lHp Yc Ym o1 o2 X' Xm' h' → lS X' Xm' → SL G mL_law P 100 k n h' 3438 (lL b (Yc 0) (Ym 38) o1 o2 z) []) : SL G mL_law P 100 (7 + k) (493 + n) h 2163 (lL b (Yc 0) (Ym 38) o1 o2 z) [] := by
  refine SL.room (d' := 100) (k' := 1 + k) (n' := 6 + n) (Nat.le_refl _) (by omega) (by omega) ?_
  refine y_aload_n dL_law_2163 rfl ?_
  refine y_arg (q := 1) hX hN hz (by decide) rfl rfl dL_law_2164 dL_law_2165 dL_law_2167 dL_law_2168 dL_law_2169 ?_
  refine y_aload_n dL_law_2170 rfl ?_
  refine y_cls (As := [_]) (cv := cvZ) (kd := kI) (Es := ["java/lang/IndexOutOfBoundsException"]) (mc := 1) (ms := 6) hL (fun v q => by obtain ⟨x, rfl⟩ := q; exact ⟨_, rfl⟩) (by decide) dL_law_2171 cfL_acceptsInput stL_acceptsInput lL_283 rfl rfl rfl rfl (fun hx kk => h_acceptsInput hx kk) (e_acceptsInput hZ hS (iI_rg _)) (fun X1 h1 k0 hL1 hR => ?_)
  refine y_istore (L' := lL6 b (Yc 0) (Ym 38) o1 o2 z k0) dL_law_2174 (by decide) rfl ?_
  refine y_aload_n dL_law_2176 rfl ?_
  refine y_arg (q := 1) hX hN hz (by decide) rfl rfl dL_law_2177 dL_law_2178 dL_law_2180 dL_law_2181 dL_law_2182 ?_
  refine y_mcl (As := [_]) (rest := []) hL1 hR dL_law_2183 cfX11_acceptsInput imX11_acceptsInput seX11_acceptsInput lL_285 rfl rfl rfl (Nat.zero_le _) (fun o Xm2 h2 hQ hL2 e1 e2 => ?_)
  obtain ⟨v, rfl, hv, ht, hS2, hg⟩ := hQ
  exact y_tlZ (pc := 2186) ⟨dL_law_2186, ⟨dL_law_2188, dL_law_2189, dL_law_2192, dL_law_2194, dL_law_2199⟩, dL_law_2201, dL_law_2204, dL_law_2205, dL_law_2206, dL_law_2207, dL_law_2209, dL_law_2212, dL_law_2213, dL_law_2216, dL_law_2217, dL_law_2218, _, dL_law_2223, by decide⟩ hL2 hS2 hv ht (fun y => by rw [e1]; exact hg y) (fun h3 hL3 => hEnd _ _ _ hL3 hS2)
theorem g_wordCount (hZ : p_Zs G) (hZn : p_Zn G) (hX : p_Scr G b N xs) (hN : N ≤ 3072) (hz : 0 ≤ z ∧ z + 6 ≤ N) (hL : lHp Yc Ym o1 o2 (V, C, J) (Vm, Cm, Jm) h) (hS : lSm V C J Vm Cm) (hEnd : ∀ X' Xm' h', lHp Yc Ym o1 o2 X' Xm' h' → lS X' Xm' → SL G mL_law P 100 k n h' 3438 (lL b (Yc 0) (Ym 38) o1 o2 z) []) : SL G mL_law P 100 (7 + k) (493 + n) h 2226 (lL b (Yc 0) (Ym 38) o1 o2 z) [] := by
  refine SL.room (d' := 100) (k' := 2 + k) (n' := 12 + n) (Nat.le_refl _) (by omega) (by omega) ?_
  refine y_aload_n dL_law_2226 rfl ?_
  refine y_arg (q := 1) hX hN hz (by decide) rfl rfl dL_law_2227 dL_law_2228 dL_law_2230 dL_law_2231 dL_law_2232 ?_
  refine y_arg (q := 2) hX hN hz (by decide) rfl rfl dL_law_2233 dL_law_2234 dL_law_2236 dL_law_2237 dL_law_2238 ?_
  refine y_aload_n dL_law_2239 rfl ?_
  refine y_cls (As := [_, _]) (cv := cvJ) (kd := kJ) (Es := ["java/lang/IndexOutOfBoundsException", "java/lang/IllegalArgumentException"]) (mc := 2) (ms := 12) hL (fun v q => by obtain ⟨x, rfl⟩ := q; exact ⟨_, rfl⟩) (by decide) dL_law_2240 cfL_wordCount stL_wordCount lL_286 rfl rfl rfl rfl (fun hx kk => h_wordCount hZn hx kk) (e_wordCount hZ hS (iI_rg _) (iI_rg _)) (fun X1 h1 k0 hL1 hR => ?_)
  refine y_istore (L' := lL6 b (Yc 0) (Ym 38) o1 o2 z k0) dL_law_2243 (by decide) rfl ?_
  refine y_aload_n dL_law_2245 rfl ?_
  refine y_arg (q := 1) hX hN hz (by decide) rfl rfl dL_law_2246 dL_law_2247 dL_law_2249 dL_law_2250 dL_law_2251 ?_
  refine y_arg (q := 2) hX hN hz (by decide) rfl rfl dL_law_2252 dL_law_2253 dL_law_2255 dL_law_2256 dL_law_2257 ?_
  refine y_mcl (As := [_, _]) (rest := []) hL1 hR dL_law_2258 cfX11_wordCount imX11_wordCount seX11_wordCount lL_288 rfl rfl rfl (Nat.zero_le _) (fun o Xm2 h2 hQ hL2 e1 e2 => ?_)
  obtain ⟨v, rfl, hv, ht, hS2, hg⟩ := hQ
  exact y_tlJ (pc := 2261) ⟨dL_law_2261, ⟨dL_law_2263, dL_law_2264, dL_law_2267, dL_law_2269, dL_law_2274⟩, dL_law_2276, dL_law_2279, dL_law_2280, dL_law_2281, dL_law_2282, dL_law_2284, dL_law_2285, _, dL_law_2290, by decide⟩ hL2 hS2 hv ht (fun y => by rw [e1]; exact hg y) (fun h3 hL3 => hEnd _ _ _ hL3 hS2)
theorem g_wordCountWithPrefix (hZ : p_Zs G) (hZn : p_Zn G) (hX : p_Scr G b N xs) (hN : N ≤ 3072) (hz : 0 ≤ z ∧ z + 6 ≤ N) (hL : lHp Yc Ym o1 o2 (V, C, J) (Vm, Cm, Jm) h) (hS : lSm V C J Vm Cm) (hEnd : ∀ X' Xm' h', lHp Yc Ym o1 o2 X' Xm' h' → lS X' Xm' → SL G mL_law P 100 k n h' 3438 (lL b (Yc 0) (Ym 38) o1 o2 z) []) : SL G mL_law P 100 (7 + k) (493 + n) h 2293 (lL b (Yc 0) (Ym 38) o1 o2 z) [] := by
  refine SL.room (d' := 100) (k' := 2 + k) (n' := 12 + n) (Nat.le_refl _) (by omega) (by omega) ?_
  refine y_aload_n dL_law_2293 rfl ?_
  refine y_arg (q := 1) hX hN hz (by decide) rfl rfl dL_law_2294 dL_law_2295 dL_law_2297 dL_law_2298 dL_law_2299 ?_
  refine y_arg (q := 2) hX hN hz (by decide) rfl rfl dL_law_2300 dL_law_2301 dL_law_2303 dL_law_2304 dL_law_2305 ?_
  refine y_aload_n dL_law_2306 rfl ?_
  refine y_cls (As := [_, _]) (cv := cvJ) (kd := kJ) (Es := ["java/lang/IndexOutOfBoundsException", "java/lang/IllegalArgumentException"]) (mc := 2) (ms := 12) hL (fun v q => by obtain ⟨x, rfl⟩ := q; exact ⟨_, rfl⟩) (by decide) dL_law_2307 cfL_wordCountWithPrefix stL_wordCountWithPrefix lL_289 rfl rfl rfl rfl (fun hx kk => h_wordCountWithPrefix hZn hx kk) (e_wordCountWithPrefix hZ hS (iI_rg _) (iI_rg _)) (fun X1 h1 k0 hL1 hR => ?_)
  refine y_istore (L' := lL6 b (Yc 0) (Ym 38) o1 o2 z k0) dL_law_2310 (by decide) rfl ?_
  refine y_aload_n dL_law_2312 rfl ?_
  refine y_arg (q := 1) hX hN hz (by decide) rfl rfl dL_law_2313 dL_law_2314 dL_law_2316 dL_law_2317 dL_law_2318 ?_
  refine y_arg (q := 2) hX hN hz (by decide) rfl rfl dL_law_2319 dL_law_2320 dL_law_2322 dL_law_2323 dL_law_2324 ?_
  refine y_mcl (As := [_, _]) (rest := []) hL1 hR dL_law_2325 cfX11_wordCountWithPrefix imX11_wordCountWithPrefix seX11_wordCountWithPrefix lL_291 rfl rfl rfl (Nat.zero_le _) (fun o Xm2 h2 hQ hL2 e1 e2 => ?_)
  obtain ⟨v, rfl, hv, ht, hS2, hg⟩ := hQ
  exact y_tlJ (pc := 2328) ⟨dL_law_2328, ⟨dL_law_2330, dL_law_2331, dL_law_2334, dL_law_2336, dL_law_2341⟩, dL_law_2343, dL_law_2346, dL_law_2347, dL_law_2348, dL_law_2349, dL_law_2351, dL_law_2352, _, dL_law_2357, by decide⟩ hL2 hS2 hv ht (fun y => by rw [e1]; exact hg y) (fun h3 hL3 => hEnd _ _ _ hL3 hS2)
theorem g_shortestLength (hZ : p_Zs G) (hZn : p_Zn G) (hX : p_Scr G b N xs) (hN : N ≤ 3072) (hz : 0 ≤ z ∧ z + 6 ≤ N) (hL : lHp Yc Ym o1 o2 (V, C, J) (Vm, Cm, Jm) h) (hS : lSm V C J Vm Cm) (hEnd : ∀ X' Xm' h', lHp Yc Ym o1 o2 X' Xm' h' → lS X' Xm' → SL G mL_law P 100 k n h' 3438 (lL b (Yc 0) (Ym 38) o1 o2 z) []) : SL G mL_law P 100 (7 + k) (493 + n) h 2360 (lL b (Yc 0) (Ym 38) o1 o2 z) [] := by
  refine SL.room (d' := 100) (k' := 1 + k) (n' := 6 + n) (Nat.le_refl _) (by omega) (by omega) ?_
  refine y_aload_n dL_law_2360 rfl ?_
  refine y_arg (q := 1) hX hN hz (by decide) rfl rfl dL_law_2361 dL_law_2362 dL_law_2364 dL_law_2365 dL_law_2366 ?_
  refine y_aload_n dL_law_2367 rfl ?_
  refine y_cls (As := [_]) (cv := cvI) (kd := kI) (Es := ["java/lang/IndexOutOfBoundsException"]) (mc := 1) (ms := 6) hL (fun v q => by obtain ⟨x, rfl⟩ := q; exact ⟨_, rfl⟩) (by decide) dL_law_2368 cfL_shortestLength stL_shortestLength lL_292 rfl rfl rfl rfl (fun hx kk => h_shortestLength hx kk) (e_shortestLength hZ hS (iI_rg _)) (fun X1 h1 k0 hL1 hR => ?_)
  refine y_istore (L' := lL6 b (Yc 0) (Ym 38) o1 o2 z k0) dL_law_2371 (by decide) rfl ?_
  refine y_aload_n dL_law_2373 rfl ?_
  refine y_arg (q := 1) hX hN hz (by decide) rfl rfl dL_law_2374 dL_law_2375 dL_law_2377 dL_law_2378 dL_law_2379 ?_
  refine y_mcl (As := [_]) (rest := []) hL1 hR dL_law_2380 cfX11_shortestLength imX11_shortestLength seX11_shortestLength lL_294 rfl rfl rfl (Nat.zero_le _) (fun o Xm2 h2 hQ hL2 e1 e2 => ?_)
  obtain ⟨v, rfl, hv, ht, hS2, hg⟩ := hQ
  exact y_tlI (pc := 2383) ⟨dL_law_2383, ⟨dL_law_2385, dL_law_2386, dL_law_2389, dL_law_2391, dL_law_2396⟩, dL_law_2398, dL_law_2401, dL_law_2402, dL_law_2403, dL_law_2404, dL_law_2406, dL_law_2407, dL_law_2408, _, dL_law_2413, by decide⟩ hL2 hS2 hv ht (fun y => by rw [e1]; exact hg y) (fun h3 hL3 => hEnd _ _ _ hL3 hS2)
theorem g_isFinite (hZ : p_Zs G) (hZn : p_Zn G) (hX : p_Scr G b N xs) (hN : N ≤ 3072) (hz : 0 ≤ z ∧ z + 6 ≤ N) (hL : lHp Yc Ym o1 o2 (V, C, J) (Vm, Cm, Jm) h) (hS : lSm V C J Vm Cm) (hEnd : ∀ X' Xm' h', lHp Yc Ym o1 o2 X' Xm' h' → lS X' Xm' → SL G mL_law P 100 k n h' 3438 (lL b (Yc 0) (Ym 38) o1 o2 z) []) : SL G mL_law P 100 (7 + k) (493 + n) h 2416 (lL b (Yc 0) (Ym 38) o1 o2 z) [] := by
  refine SL.room (d' := 100) (k' := 1 + k) (n' := 6 + n) (Nat.le_refl _) (by omega) (by omega) ?_
  refine y_aload_n dL_law_2416 rfl ?_
  refine y_arg (q := 1) hX hN hz (by decide) rfl rfl dL_law_2417 dL_law_2418 dL_law_2420 dL_law_2421 dL_law_2422 ?_
  refine y_aload_n dL_law_2423 rfl ?_
  refine y_cls (As := [_]) (cv := cvZ) (kd := kI) (Es := ["java/lang/IndexOutOfBoundsException"]) (mc := 1) (ms := 6) hL (fun v q => by obtain ⟨x, rfl⟩ := q; exact ⟨_, rfl⟩) (by decide) dL_law_2424 cfL_isFinite stL_isFinite lL_295 rfl rfl rfl rfl (fun hx kk => h_isFinite hx kk) (e_isFinite hZ hS (iI_rg _)) (fun X1 h1 k0 hL1 hR => ?_)
  refine y_istore (L' := lL6 b (Yc 0) (Ym 38) o1 o2 z k0) dL_law_2427 (by decide) rfl ?_
  refine y_aload_n dL_law_2429 rfl ?_
  refine y_arg (q := 1) hX hN hz (by decide) rfl rfl dL_law_2430 dL_law_2431 dL_law_2433 dL_law_2434 dL_law_2435 ?_
  refine y_mcl (As := [_]) (rest := []) hL1 hR dL_law_2436 cfX11_isFinite imX11_isFinite seX11_isFinite lL_297 rfl rfl rfl (Nat.zero_le _) (fun o Xm2 h2 hQ hL2 e1 e2 => ?_)
  obtain ⟨v, rfl, hv, ht, hS2, hg⟩ := hQ
  exact y_tlZ (pc := 2439) ⟨dL_law_2439, ⟨dL_law_2441, dL_law_2442, dL_law_2445, dL_law_2447, dL_law_2452⟩, dL_law_2454, dL_law_2457, dL_law_2458, dL_law_2459, dL_law_2460, dL_law_2462, dL_law_2465, dL_law_2466, dL_law_2469, dL_law_2470, dL_law_2471, _, dL_law_2476, by decide⟩ hL2 hS2 hv ht (fun y => by rw [e1]; exact hg y) (fun h3 hL3 => hEnd _ _ _ hL3 hS2)
theorem g_longestLength (hZ : p_Zs G) (hZn : p_Zn G) (hX : p_Scr G b N xs) (hN : N ≤ 3072) (hz : 0 ≤ z ∧ z + 6 ≤ N) (hL : lHp Yc Ym o1 o2 (V, C, J) (Vm, Cm, Jm) h) (hS : lSm V C J Vm Cm) (hEnd : ∀ X' Xm' h', lHp Yc Ym o1 o2 X' Xm' h' → lS X' Xm' → SL G mL_law P 100 k n h' 3438 (lL b (Yc 0) (Ym 38) o1 o2 z) []) : SL G mL_law P 100 (7 + k) (493 + n) h 2479 (lL b (Yc 0) (Ym 38) o1 o2 z) [] := by
  refine SL.room (d' := 100) (k' := 1 + k) (n' := 6 + n) (Nat.le_refl _) (by omega) (by omega) ?_
  refine y_aload_n dL_law_2479 rfl ?_
  refine y_arg (q := 1) hX hN hz (by decide) rfl rfl dL_law_2480 dL_law_2481 dL_law_2483 dL_law_2484 dL_law_2485 ?_
  refine y_aload_n dL_law_2486 rfl ?_
  refine y_cls (As := [_]) (cv := cvI) (kd := kI) (Es := ["java/lang/IndexOutOfBoundsException"]) (mc := 1) (ms := 6) hL (fun v q => by obtain ⟨x, rfl⟩ := q; exact ⟨_, rfl⟩) (by decide) dL_law_2487 cfL_longestLength stL_longestLength lL_298 rfl rfl rfl rfl (fun hx kk => h_longestLength hx kk) (e_longestLength hZ hS (iI_rg _)) (fun X1 h1 k0 hL1 hR => ?_)
  refine y_istore (L' := lL6 b (Yc 0) (Ym 38) o1 o2 z k0) dL_law_2490 (by decide) rfl ?_
  refine y_aload_n dL_law_2492 rfl ?_
  refine y_arg (q := 1) hX hN hz (by decide) rfl rfl dL_law_2493 dL_law_2494 dL_law_2496 dL_law_2497 dL_law_2498 ?_
  refine y_mcl (As := [_]) (rest := []) hL1 hR dL_law_2499 cfX11_longestLength imX11_longestLength seX11_longestLength lL_300 rfl rfl rfl (Nat.zero_le _) (fun o Xm2 h2 hQ hL2 e1 e2 => ?_)
  obtain ⟨v, rfl, hv, ht, hS2, hg⟩ := hQ
  exact y_tlI (pc := 2502) ⟨dL_law_2502, ⟨dL_law_2504, dL_law_2505, dL_law_2508, dL_law_2510, dL_law_2515⟩, dL_law_2517, dL_law_2520, dL_law_2521, dL_law_2522, dL_law_2523, dL_law_2525, dL_law_2526, dL_law_2527, _, dL_law_2532, by decide⟩ hL2 hS2 hv ht (fun y => by rw [e1]; exact hg y) (fun h3 hL3 => hEnd _ _ _ hL3 hS2)
theorem g_isSubset (hZ : p_Zs G) (hZn : p_Zn G) (hX : p_Scr G b N xs) (hN : N ≤ 3072) (hz : 0 ≤ z ∧ z + 6 ≤ N) (hL : lHp Yc Ym o1 o2 (V, C, J) (Vm, Cm, Jm) h) (hS : lSm V C J Vm Cm) (hEnd : ∀ X' Xm' h', lHp Yc Ym o1 o2 X' Xm' h' → lS X' Xm' → SL G mL_law P 100 k n h' 3438 (lL b (Yc 0) (Ym 38) o1 o2 z) []) : SL G mL_law P 100 (7 + k) (493 + n) h 2535 (lL b (Yc 0) (Ym 38) o1 o2 z) [] := by
  refine SL.room (d' := 100) (k' := 1 + k) (n' := 6 + n) (Nat.le_refl _) (by omega) (by omega) ?_
  refine y_aload_n dL_law_2535 rfl ?_
  refine y_arg (q := 1) hX hN hz (by decide) rfl rfl dL_law_2536 dL_law_2537 dL_law_2539 dL_law_2540 dL_law_2541 ?_
  refine y_aload_n dL_law_2542 rfl ?_
  refine y_cls (As := [_]) (cv := cvZ) (kd := kI) (Es := ["java/lang/IndexOutOfBoundsException"]) (mc := 1) (ms := 6) hL (fun v q => by obtain ⟨x, rfl⟩ := q; exact ⟨_, rfl⟩) (by decide) dL_law_2543 cfL_isSubset stL_isSubset lL_301 rfl rfl rfl rfl (fun hx kk => h_isSubset hx kk) (e_isSubset hZ hS (iI_rg _)) (fun X1 h1 k0 hL1 hR => ?_)
  refine y_istore (L' := lL6 b (Yc 0) (Ym 38) o1 o2 z k0) dL_law_2546 (by decide) rfl ?_
  refine y_aload_n dL_law_2548 rfl ?_
  refine y_arg (q := 1) hX hN hz (by decide) rfl rfl dL_law_2549 dL_law_2550 dL_law_2552 dL_law_2553 dL_law_2554 ?_
  refine y_mcl (As := [_]) (rest := []) hL1 hR dL_law_2555 cfX11_isSubset imX11_isSubset seX11_isSubset lL_303 rfl rfl rfl (Nat.zero_le _) (fun o Xm2 h2 hQ hL2 e1 e2 => ?_)
  obtain ⟨v, rfl, hv, ht, hS2, hg⟩ := hQ
  exact y_tlZ (pc := 2558) ⟨dL_law_2558, ⟨dL_law_2560, dL_law_2561, dL_law_2564, dL_law_2566, dL_law_2571⟩, dL_law_2573, dL_law_2576, dL_law_2577, dL_law_2578, dL_law_2579, dL_law_2581, dL_law_2584, dL_law_2585, dL_law_2588, dL_law_2589, dL_law_2590, _, dL_law_2595, by decide⟩ hL2 hS2 hv ht (fun y => by rw [e1]; exact hg y) (fun h3 hL3 => hEnd _ _ _ hL3 hS2)
theorem g_differenceLength (hZ : p_Zs G) (hZn : p_Zn G) (hX : p_Scr G b N xs) (hN : N ≤ 3072) (hz : 0 ≤ z ∧ z + 6 ≤ N) (hL : lHp Yc Ym o1 o2 (V, C, J) (Vm, Cm, Jm) h) (hS : lSm V C J Vm Cm) (hEnd : ∀ X' Xm' h', lHp Yc Ym o1 o2 X' Xm' h' → lS X' Xm' → SL G mL_law P 100 k n h' 3438 (lL b (Yc 0) (Ym 38) o1 o2 z) []) : SL G mL_law P 100 (7 + k) (493 + n) h 2598 (lL b (Yc 0) (Ym 38) o1 o2 z) [] := by
  refine SL.room (d' := 100) (k' := k) (n' := n) (Nat.le_refl _) (by omega) (by omega) ?_
  refine y_aload_n dL_law_2598 rfl ?_
  refine y_clv (As := []) hL dL_law_2599 cfX10_differenceLength imX10_differenceLength seX10_differenceLength lL_304 rfl rfl rfl (e_differenceLength hZ hS ) (fun X1 h1 v hL1 hv hR => ?_)
  obtain ⟨x, rfl⟩ := hv
  refine y_aload_n dL_law_2602 rfl ?_
  refine y_mcl (As := []) (rest := [.int x]) hL1 hR dL_law_2603 cfX11_differenceLength imX11_differenceLength seX11_differenceLength lL_307 rfl rfl rfl (Nat.le_of_ble_eq_true rfl) (fun o Xm2 h2 hQ hL2 e1 e2 => ?_)
  obtain ⟨rfl, -, hS2⟩ := hQ
  exact y_same (pc := 2606) dL_law_2606 (by decide) (hEnd _ _ _ hL2 hS2)
theorem g_sharedLength (hZ : p_Zs G) (hZn : p_Zn G) (hX : p_Scr G b N xs) (hN : N ≤ 3072) (hz : 0 ≤ z ∧ z + 6 ≤ N) (hL : lHp Yc Ym o1 o2 (V, C, J) (Vm, Cm, Jm) h) (hS : lSm V C J Vm Cm) (hEnd : ∀ X' Xm' h', lHp Yc Ym o1 o2 X' Xm' h' → lS X' Xm' → SL G mL_law P 100 k n h' 3438 (lL b (Yc 0) (Ym 38) o1 o2 z) []) : SL G mL_law P 100 (7 + k) (493 + n) h 2611 (lL b (Yc 0) (Ym 38) o1 o2 z) [] := by
  refine SL.room (d' := 100) (k' := k) (n' := n) (Nat.le_refl _) (by omega) (by omega) ?_
  refine y_aload_n dL_law_2611 rfl ?_
  refine y_clv (As := []) hL dL_law_2612 cfX10_sharedLength imX10_sharedLength seX10_sharedLength lL_308 rfl rfl rfl (e_sharedLength hZ hS ) (fun X1 h1 v hL1 hv hR => ?_)
  obtain ⟨x, rfl⟩ := hv
  refine y_aload_n dL_law_2615 rfl ?_
  refine y_mcl (As := []) (rest := [.int x]) hL1 hR dL_law_2616 cfX11_sharedLength imX11_sharedLength seX11_sharedLength lL_311 rfl rfl rfl (Nat.le_of_ble_eq_true rfl) (fun o Xm2 h2 hQ hL2 e1 e2 => ?_)
  obtain ⟨rfl, -, hS2⟩ := hQ
  exact y_same (pc := 2619) dL_law_2619 (by decide) (hEnd _ _ _ hL2 hS2)
theorem g_reachablePairs (hZ : p_Zs G) (hZn : p_Zn G) (hX : p_Scr G b N xs) (hN : N ≤ 3072) (hz : 0 ≤ z ∧ z + 6 ≤ N) (hL : lHp Yc Ym o1 o2 (V, C, J) (Vm, Cm, Jm) h) (hS : lSm V C J Vm Cm) (hEnd : ∀ X' Xm' h', lHp Yc Ym o1 o2 X' Xm' h' → lS X' Xm' → SL G mL_law P 100 k n h' 3438 (lL b (Yc 0) (Ym 38) o1 o2 z) []) : SL G mL_law P 100 (7 + k) (493 + n) h 2624 (lL b (Yc 0) (Ym 38) o1 o2 z) [] := by
  refine SL.room (d' := 100) (k' := k) (n' := n) (Nat.le_refl _) (by omega) (by omega) ?_
  refine y_aload_n dL_law_2624 rfl ?_
  refine y_clv (As := []) hL dL_law_2625 cfX10_reachablePairs imX10_reachablePairs seX10_reachablePairs lL_312 rfl rfl rfl (e_reachablePairs hZ hS ) (fun X1 h1 v hL1 hv hR => ?_)
  obtain ⟨x, rfl⟩ := hv
  refine y_aload_n dL_law_2628 rfl ?_
  refine y_mcl (As := []) (rest := [.int x]) hL1 hR dL_law_2629 cfX11_reachablePairs imX11_reachablePairs seX11_reachablePairs lL_315 rfl rfl rfl (Nat.le_of_ble_eq_true rfl) (fun o Xm2 h2 hQ hL2 e1 e2 => ?_)
  obtain ⟨rfl, -, hS2⟩ := hQ
  exact y_same (pc := 2632) dL_law_2632 (by decide) (hEnd _ _ _ hL2 hS2)
theorem g_isPassable (hZ : p_Zs G) (hZn : p_Zn G) (hX : p_Scr G b N xs) (hN : N ≤ 3072) (hz : 0 ≤ z ∧ z + 6 ≤ N) (hL : lHp Yc Ym o1 o2 (V, C, J) (Vm, Cm, Jm) h) (hS : lSm V C J Vm Cm) (hEnd : ∀ X' Xm' h', lHp Yc Ym o1 o2 X' Xm' h' → lS X' Xm' → SL G mL_law P 100 k n h' 3438 (lL b (Yc 0) (Ym 38) o1 o2 z) []) : SL G mL_law P 100 (7 + k) (493 + n) h 2637 (lL b (Yc 0) (Ym 38) o1 o2 z) [] := by
  refine SL.room (d' := 100) (k' := 1 + k) (n' := 6 + n) (Nat.le_refl _) (by omega) (by omega) ?_
  refine y_aload_n dL_law_2637 rfl ?_
  refine y_arg (q := 1) hX hN hz (by decide) rfl rfl dL_law_2638 dL_law_2639 dL_law_2641 dL_law_2642 dL_law_2643 ?_
  refine y_aload_n dL_law_2644 rfl ?_
  refine y_cls (As := [_]) (cv := cvZ) (kd := kI) (Es := ["java/lang/IndexOutOfBoundsException"]) (mc := 1) (ms := 6) hL (fun v q => by obtain ⟨x, rfl⟩ := q; exact ⟨_, rfl⟩) (by decide) dL_law_2645 cfL_isPassable stL_isPassable lL_316 rfl rfl rfl rfl (fun hx kk => h_isPassable hx kk) (e_isPassable hZ hS (iI_rg _)) (fun X1 h1 k0 hL1 hR => ?_)
  refine y_istore (L' := lL6 b (Yc 0) (Ym 38) o1 o2 z k0) dL_law_2648 (by decide) rfl ?_
  refine y_aload_n dL_law_2650 rfl ?_
  refine y_arg (q := 1) hX hN hz (by decide) rfl rfl dL_law_2651 dL_law_2652 dL_law_2654 dL_law_2655 dL_law_2656 ?_
  refine y_mcl (As := [_]) (rest := []) hL1 hR dL_law_2657 cfX11_isPassable imX11_isPassable seX11_isPassable lL_318 rfl rfl rfl (Nat.zero_le _) (fun o Xm2 h2 hQ hL2 e1 e2 => ?_)
  obtain ⟨v, rfl, hv, ht, hS2, hg⟩ := hQ
  exact y_tlZ (pc := 2660) ⟨dL_law_2660, ⟨dL_law_2662, dL_law_2663, dL_law_2666, dL_law_2668, dL_law_2673⟩, dL_law_2675, dL_law_2678, dL_law_2679, dL_law_2680, dL_law_2681, dL_law_2683, dL_law_2686, dL_law_2687, dL_law_2690, dL_law_2691, dL_law_2692, _, dL_law_2697, by decide⟩ hL2 hS2 hv ht (fun y => by rw [e1]; exact hg y) (fun h3 hL3 => hEnd _ _ _ hL3 hS2)
theorem g_isNight (hZ : p_Zs G) (hZn : p_Zn G) (hX : p_Scr G b N xs) (hN : N ≤ 3072) (hz : 0 ≤ z ∧ z + 6 ≤ N) (hL : lHp Yc Ym o1 o2 (V, C, J) (Vm, Cm, Jm) h) (hS : lSm V C J Vm Cm) (hEnd : ∀ X' Xm' h', lHp Yc Ym o1 o2 X' Xm' h' → lS X' Xm' → SL G mL_law P 100 k n h' 3438 (lL b (Yc 0) (Ym 38) o1 o2 z) []) : SL G mL_law P 100 (7 + k) (493 + n) h 2700 (lL b (Yc 0) (Ym 38) o1 o2 z) [] := by
  refine SL.room (d' := 100) (k' := k) (n' := n) (Nat.le_refl _) (by omega) (by omega) ?_
  refine y_aload_n dL_law_2700 rfl ?_
  refine y_clv (As := []) hL dL_law_2701 cfX10_isNight imX10_isNight seX10_isNight lL_319 rfl rfl rfl (e_isNight hZ hS ) (fun X1 h1 v hL1 hv hR => ?_)
  obtain ⟨x, rfl⟩ := hv
  refine y_aload_n dL_law_2704 rfl ?_
  refine y_mcl (As := []) (rest := [.int x]) hL1 hR dL_law_2705 cfX11_isNight imX11_isNight seX11_isNight lL_323 rfl rfl rfl (Nat.le_of_ble_eq_true rfl) (fun o Xm2 h2 hQ hL2 e1 e2 => ?_)
  obtain ⟨rfl, -, hS2⟩ := hQ
  exact y_same (pc := 2708) dL_law_2708 (by decide) (hEnd _ _ _ hL2 hS2)
theorem g_walkerCount (hZ : p_Zs G) (hZn : p_Zn G) (hX : p_Scr G b N xs) (hN : N ≤ 3072) (hz : 0 ≤ z ∧ z + 6 ≤ N) (hL : lHp Yc Ym o1 o2 (V, C, J) (Vm, Cm, Jm) h) (hS : lSm V C J Vm Cm) (hEnd : ∀ X' Xm' h', lHp Yc Ym o1 o2 X' Xm' h' → lS X' Xm' → SL G mL_law P 100 k n h' 3438 (lL b (Yc 0) (Ym 38) o1 o2 z) []) : SL G mL_law P 100 (7 + k) (493 + n) h 2713 (lL b (Yc 0) (Ym 38) o1 o2 z) [] := by
  refine SL.room (d' := 100) (k' := k) (n' := n) (Nat.le_refl _) (by omega) (by omega) ?_
  refine y_aload_n dL_law_2713 rfl ?_
  refine y_clv (As := []) hL dL_law_2714 cfX10_walkerCount imX10_walkerCount seX10_walkerCount lL_324 rfl rfl rfl (e_walkerCount hZ hS ) (fun X1 h1 v hL1 hv hR => ?_)
  obtain ⟨x, rfl⟩ := hv
  refine y_aload_n dL_law_2717 rfl ?_
  refine y_mcl (As := []) (rest := [.int x]) hL1 hR dL_law_2718 cfX11_walkerCount imX11_walkerCount seX11_walkerCount lL_327 rfl rfl rfl (Nat.le_of_ble_eq_true rfl) (fun o Xm2 h2 hQ hL2 e1 e2 => ?_)
  obtain ⟨rfl, -, hS2⟩ := hQ
  exact y_same (pc := 2721) dL_law_2721 (by decide) (hEnd _ _ _ hL2 hS2)
theorem g_walkerSlot (hZ : p_Zs G) (hZn : p_Zn G) (hX : p_Scr G b N xs) (hN : N ≤ 3072) (hz : 0 ≤ z ∧ z + 6 ≤ N) (hL : lHp Yc Ym o1 o2 (V, C, J) (Vm, Cm, Jm) h) (hS : lSm V C J Vm Cm) (hEnd : ∀ X' Xm' h', lHp Yc Ym o1 o2 X' Xm' h' → lS X' Xm' → SL G mL_law P 100 k n h' 3438 (lL b (Yc 0) (Ym 38) o1 o2 z) []) : SL G mL_law P 100 (7 + k) (493 + n) h 2726 (lL b (Yc 0) (Ym 38) o1 o2 z) [] := by
  refine SL.room (d' := 100) (k' := 1 + k) (n' := 6 + n) (Nat.le_refl _) (by omega) (by omega) ?_
  refine y_aload_n dL_law_2726 rfl ?_
  refine y_arg (q := 1) hX hN hz (by decide) rfl rfl dL_law_2727 dL_law_2728 dL_law_2730 dL_law_2731 dL_law_2732 ?_
  refine y_aload_n dL_law_2733 rfl ?_
  refine y_cls (As := [_]) (cv := cvI) (kd := kI) (Es := ["java/lang/IndexOutOfBoundsException"]) (mc := 1) (ms := 6) hL (fun v q => by obtain ⟨x, rfl⟩ := q; exact ⟨_, rfl⟩) (by decide) dL_law_2734 cfL_walkerSlot stL_walkerSlot lL_328 rfl rfl rfl rfl (fun hx kk => h_walkerSlot hx kk) (e_walkerSlot hZ hS (iI_rg _)) (fun X1 h1 k0 hL1 hR => ?_)
  refine y_istore (L' := lL6 b (Yc 0) (Ym 38) o1 o2 z k0) dL_law_2737 (by decide) rfl ?_
  refine y_aload_n dL_law_2739 rfl ?_
  refine y_arg (q := 1) hX hN hz (by decide) rfl rfl dL_law_2740 dL_law_2741 dL_law_2743 dL_law_2744 dL_law_2745 ?_
  refine y_mcl (As := [_]) (rest := []) hL1 hR dL_law_2746 cfX11_walkerSlot imX11_walkerSlot seX11_walkerSlot lL_330 rfl rfl rfl (Nat.zero_le _) (fun o Xm2 h2 hQ hL2 e1 e2 => ?_)
  obtain ⟨v, rfl, hv, ht, hS2, hg⟩ := hQ
  exact y_tlI (pc := 2749) ⟨dL_law_2749, ⟨dL_law_2751, dL_law_2752, dL_law_2755, dL_law_2757, dL_law_2762⟩, dL_law_2764, dL_law_2767, dL_law_2768, dL_law_2769, dL_law_2770, dL_law_2772, dL_law_2773, dL_law_2774, _, dL_law_2779, by decide⟩ hL2 hS2 hv ht (fun y => by rw [e1]; exact hg y) (fun h3 hL3 => hEnd _ _ _ hL3 hS2)
end C5c
