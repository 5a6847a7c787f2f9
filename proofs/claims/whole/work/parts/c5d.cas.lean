/-! ===== the law, case by case: 48 to 60 ===== -/
section C5d
variable {G : p_G} {P : p_Zt} {k n : Nat} {h : p_H} {Yc Ym : Nat → Nat} {o1 o2 b N : Nat} {z : Int} {xs : Nat → Int32} {V Vm : Nat → Int} {C Cm : Nat → Int → Int} {J : c_J} {Jm : Int → Int}
theorem g_walkerState (hZ : p_Zs G) (hZn : p_Zn G) (hX : p_Scr G b N xs) (hN : N ≤ 3072) (hz : 0 ≤ z ∧ z + 6 ≤ N) (hL : lHp Yc Ym o1 o2 (V, C, J) (Vm, Cm, Jm) h) (hS : lSm V C J Vm Cm) (hEnd : ∀ X' Xm' h', lHp Yc Ym o1 o2 X' Xm' h' → lS X' Xm' → SL G mL_law P 100 k n h' 3438 (lL b (Yc 0) (Ym 38) o1 o2 z) []) : SL G mL_law P 100 (7 + k) (493 + n) h 2782 (lL b (Yc 0) (Ym 38) o1 o2 z) [] := by
  refine SL.room (d' := 100) (k' := 1 + k) (n' := 6 + n) (Nat.le_refl _) (by omega) (by omega) ?_
  refine y_aload_n dL_law_2782 rfl ?_
  refine y_arg (q := 1) hX hN hz (by decide) rfl rfl dL_law_2783 dL_law_2784 dL_law_2786 dL_law_2787 dL_law_2788 ?_
  refine y_aload_n dL_law_2789 rfl ?_
  refine y_cls (As := [_]) (cv := cvI) (kd := kI) (Es := ["java/lang/IndexOutOfBoundsException"]) (mc := 1) (ms := 6) hL (fun v q => by obtain ⟨x, rfl⟩ := q; exact ⟨_, rfl⟩) (by decide) dL_law_2790 cfL_walkerState stL_walkerState lL_331 rfl rfl rfl rfl (fun hx kk => h_walkerState hx kk) (e_walkerState hZ hS (iI_rg _)) (fun X1 h1 k0 hL1 hR => ?_)
  refine y_istore (L' := lL6 b (Yc 0) (Ym 38) o1 o2 z k0) dL_law_2793 (by decide) rfl ?_
  refine y_aload_n dL_law_2795 rfl ?_
  refine y_arg (q := 1) hX hN hz (by decide) rfl rfl dL_law_2796 dL_law_2797 dL_law_2799 dL_law_2800 dL_law_2801 ?_
  refine y_mcl (As := [_]) (rest := []) hL1 hR dL_law_2802 cfX11_walkerState imX11_walkerState seX11_walkerState lL_333 rfl rfl rfl (Nat.zero_le _) (fun o Xm2 h2 hQ hL2 e1 e2 => ?_)
  obtain ⟨v, rfl, hv, ht, hS2, hg⟩ := hQ
  exact y_tlI (pc := 2805) ⟨dL_law_2805, ⟨dL_law_2807, dL_law_2808, dL_law_2811, dL_law_2813, dL_law_2818⟩, dL_law_2820, dL_law_2823, dL_law_2824, dL_law_2825, dL_law_2826, dL_law_2828, dL_law_2829, dL_law_2830, _, dL_law_2835, by decide⟩ hL2 hS2 hv ht (fun y => by rw [e1]; exact hg y) (fun h3 hL3 => hEnd _ _ _ hL3 hS2)
theorem g_walkerSteps (hZ : p_Zs G) (hZn : p_Zn G) (hX : p_Scr G b N xs) (hN : N ≤ 3072) (hz : 0 ≤ z ∧ z + 6 ≤ N) (hL : lHp Yc Ym o1 o2 (V, C, J) (Vm, Cm, Jm) h) (hS : lSm V C J Vm Cm) (hEnd : ∀ X' Xm' h', lHp Yc Ym o1 o2 X' Xm' h' → lS X' Xm' → SL G mL_law P 100 k n h' 3438 (lL b (Yc 0) (Ym 38) o1 o2 z) []) : SL G mL_law P 100 (7 + k) (493 + n) h 2838 (lL b (Yc 0) (Ym 38) o1 o2 z) [] := by
  refine SL.room (d' := 100) (k' := 1 + k) (n' := 6 + n) (Nat.le_refl _) (by omega) (by omega) ?_
  refine y_aload_n dL_law_2838 rfl ?_
  refine y_arg (q := 1) hX hN hz (by decide) rfl rfl dL_law_2839 dL_law_2840 dL_law_2842 dL_law_2843 dL_law_2844 ?_
  refine y_aload_n dL_law_2845 rfl ?_
  refine y_cls (As := [_]) (cv := cvI) (kd := kI) (Es := ["java/lang/IndexOutOfBoundsException"]) (mc := 1) (ms := 6) hL (fun v q => by obtain ⟨x, rfl⟩ := q; exact ⟨_, rfl⟩) (by decide) dL_law_2846 cfL_walkerSteps stL_walkerSteps lL_334 rfl rfl rfl rfl (fun hx kk => h_walkerSteps hx kk) (e_walkerSteps hZ hS (iI_rg _)) (fun X1 h1 k0 hL1 hR => ?_)
  refine y_istore (L' := lL6 b (Yc 0) (Ym 38) o1 o2 z k0) dL_law_2849 (by decide) rfl ?_
  refine y_aload_n dL_law_2851 rfl ?_
  refine y_arg (q := 1) hX hN hz (by decide) rfl rfl dL_law_2852 dL_law_2853 dL_law_2855 dL_law_2856 dL_law_2857 ?_
  refine y_mcl (As := [_]) (rest := []) hL1 hR dL_law_2858 cfX11_walkerSteps imX11_walkerSteps seX11_walkerSteps lL_336 rfl rfl rfl (Nat.zero_le _) (fun o Xm2 h2 hQ hL2 e1 e2 => ?_)
  obtain ⟨v, rfl, hv, ht, hS2, hg⟩ := hQ
  exact y_tlI (pc := 2861) ⟨dL_law_2861, ⟨dL_law_2863, dL_law_2864, dL_law_2867, dL_law_2869, dL_law_2874⟩, dL_law_2876, dL_law_2879, dL_law_2880, dL_law_2881, dL_law_2882, dL_law_2884, dL_law_2885, dL_law_2886, _, dL_law_2891, by decide⟩ hL2 hS2 hv ht (fun y => by rw [e1]; exact hg y) (fun h3 hL3 => hEnd _ _ _ hL3 hS2)
theorem g_stepsHome (hZ : p_Zs G) (hZn : p_Zn G) (hX : p_Scr G b N xs) (hN : N ≤ 3072) (hz : 0 ≤ z ∧ z + 6 ≤ N) (hL : lHp Yc Ym o1 o2 (V, C, J) (Vm, Cm, Jm) h) (hS : lSm V C J Vm Cm) (hEnd : ∀ X' Xm' h', lHp Yc Ym o1 o2 X' Xm' h' → lS X' Xm' → SL G mL_law P 100 k n h' 3438 (lL b (Yc 0) (Ym 38) o1 o2 z) []) : SL G mL_law P 100 (7 + k) (493 + n) h 2894 (lL b (Yc 0) (Ym 38) o1 o2 z) [] := by
  refine SL.room (d' := 100) (k' := 1 + k) (n' := 6 + n) (Nat.le_refl _) (by omega) (by omega) ?_
  refine y_aload_n dL_law_2894 rfl ?_
  refine y_arg (q := 1) hX hN hz (by decide) rfl rfl dL_law_2895 dL_law_2896 dL_law_2898 dL_law_2899 dL_law_2900 ?_
  refine y_aload_n dL_law_2901 rfl ?_
  refine y_cls (As := [_]) (cv := cvI) (kd := kI) (Es := ["java/lang/IndexOutOfBoundsException"]) (mc := 1) (ms := 6) hL (fun v q => by obtain ⟨x, rfl⟩ := q; exact ⟨_, rfl⟩) (by decide) dL_law_2902 cfL_stepsHome stL_stepsHome lL_337 rfl rfl rfl rfl (fun hx kk => h_stepsHome hx kk) (e_stepsHome hZ hS (iI_rg _)) (fun X1 h1 k0 hL1 hR => ?_)
  refine y_istore (L' := lL6 b (Yc 0) (Ym 38) o1 o2 z k0) dL_law_2905 (by decide) rfl ?_
  refine y_aload_n dL_law_2907 rfl ?_
  refine y_arg (q := 1) hX hN hz (by decide) rfl rfl dL_law_2908 dL_law_2909 dL_law_2911 dL_law_2912 dL_law_2913 ?_
  refine y_mcl (As := [_]) (rest := []) hL1 hR dL_law_2914 cfX11_stepsHome imX11_stepsHome seX11_stepsHome lL_339 rfl rfl rfl (Nat.zero_le _) (fun o Xm2 h2 hQ hL2 e1 e2 => ?_)
  obtain ⟨v, rfl, hv, ht, hS2, hg⟩ := hQ
  exact y_tlI (pc := 2917) ⟨dL_law_2917, ⟨dL_law_2919, dL_law_2920, dL_law_2923, dL_law_2925, dL_law_2930⟩, dL_law_2932, dL_law_2935, dL_law_2936, dL_law_2937, dL_law_2938, dL_law_2940, dL_law_2941, dL_law_2942, _, dL_law_2947, by decide⟩ hL2 hS2 hv ht (fun y => by rw [e1]; exact hg y) (fun h3 hL3 => hEnd _ _ _ hL3 hS2)
theorem g_streetHome (hZ : p_Zs G) (hZn : p_Zn G) (hX : p_Scr G b N xs) (hN : N ≤ 3072) (hz : 0 ≤ z ∧ z + 6 ≤ N) (hL : lHp Yc Ym o1 o2 (V, C, J) (Vm, Cm, Jm) h) (hS : lSm V C J Vm Cm) (hEnd : ∀ X' Xm' h', lHp Yc Ym o1 o2 X' Xm' h' → lS X' Xm' → SL G mL_law P 100 k n h' 3438 (lL b (Yc 0) (Ym 38) o1 o2 z) []) : SL G mL_law P 100 (7 + k) (493 + n) h 2950 (lL b (Yc 0) (Ym 38) o1 o2 z) [] := by
  refine SL.room (d' := 100) (k' := 1 + k) (n' := 6 + n) (Nat.le_refl _) (by omega) (by omega) ?_
  refine y_aload_n dL_law_2950 rfl ?_
  refine y_arg (q := 1) hX hN hz (by decide) rfl rfl dL_law_2951 dL_law_2952 dL_law_2954 dL_law_2955 dL_law_2956 ?_
  refine y_aload_n dL_law_2957 rfl ?_
  refine y_cls (As := [_]) (cv := cvI) (kd := kI) (Es := ["java/lang/IndexOutOfBoundsException"]) (mc := 1) (ms := 6) hL (fun v q => by obtain ⟨x, rfl⟩ := q; exact ⟨_, rfl⟩) (by decide) dL_law_2958 cfL_streetHome stL_streetHome lL_340 rfl rfl rfl rfl (fun hx kk => h_streetHome hx kk) (e_streetHome hZ hS (iI_rg _)) (fun X1 h1 k0 hL1 hR => ?_)
  refine y_istore (L' := lL6 b (Yc 0) (Ym 38) o1 o2 z k0) dL_law_2961 (by decide) rfl ?_
  refine y_aload_n dL_law_2963 rfl ?_
  refine y_arg (q := 1) hX hN hz (by decide) rfl rfl dL_law_2964 dL_law_2965 dL_law_2967 dL_law_2968 dL_law_2969 ?_
  refine y_mcl (As := [_]) (rest := []) hL1 hR dL_law_2970 cfX11_streetHome imX11_streetHome seX11_streetHome lL_342 rfl rfl rfl (Nat.zero_le _) (fun o Xm2 h2 hQ hL2 e1 e2 => ?_)
  obtain ⟨v, rfl, hv, ht, hS2, hg⟩ := hQ
  exact y_tlI (pc := 2973) ⟨dL_law_2973, ⟨dL_law_2975, dL_law_2976, dL_law_2979, dL_law_2981, dL_law_2986⟩, dL_law_2988, dL_law_2991, dL_law_2992, dL_law_2993, dL_law_2994, dL_law_2996, dL_law_2997, dL_law_2998, _, dL_law_3003, by decide⟩ hL2 hS2 hv ht (fun y => by rw [e1]; exact hg y) (fun h3 hL3 => hEnd _ _ _ hL3 hS2)
theorem g_walkersInState (hZ : p_Zs G) (hZn : p_Zn G) (hX : p_Scr G b N xs) (hN : N ≤ 3072) (hz : 0 ≤ z ∧ z + 6 ≤ N) (hL : lHp Yc Ym o1 o2 (V, C, J) (Vm, Cm, Jm) h) (hS : lSm V C J Vm Cm) (hEnd : ∀ X' Xm' h', lHp Yc Ym o1 o2 X' Xm' h' → lS X' Xm' → SL G mL_law P 100 k n h' 3438 (lL b (Yc 0) (Ym 38) o1 o2 z) []) : SL G mL_law P 100 (7 + k) (493 + n) h 3006 (lL b (Yc 0) (Ym 38) o1 o2 z) [] := by
  refine SL.room (d' := 100) (k' := 2 + k) (n' := 12 + n) (Nat.le_refl _) (by omega) (by omega) ?_
  refine y_aload_n dL_law_3006 rfl ?_
  refine y_arg (q := 1) hX hN hz (by decide) rfl rfl dL_law_3007 dL_law_3008 dL_law_3010 dL_law_3011 dL_law_3012 ?_
  refine y_arg (q := 2) hX hN hz (by decide) rfl rfl dL_law_3013 dL_law_3014 dL_law_3016 dL_law_3017 dL_law_3018 ?_
  refine y_aload_n dL_law_3019 rfl ?_
  refine y_cls (As := [_, _]) (cv := cvI) (kd := kI) (Es := ["java/lang/IndexOutOfBoundsException"]) (mc := 2) (ms := 12) hL (fun v q => by obtain ⟨x, rfl⟩ := q; exact ⟨_, rfl⟩) (by decide) dL_law_3020 cfL_walkersInState stL_walkersInState lL_343 rfl rfl rfl rfl (fun hx kk => h_walkersInState hx kk) (e_walkersInState hZ hS (iI_rg _) (iI_rg _)) (fun X1 h1 k0 hL1 hR => ?_)
  refine y_istore (L' := lL6 b (Yc 0) (Ym 38) o1 o2 z k0) dL_law_3023 (by decide) rfl ?_
  refine y_aload_n dL_law_3025 rfl ?_
  refine y_arg (q := 1) hX hN hz (by decide) rfl rfl dL_law_3026 dL_law_3027 dL_law_3029 dL_law_3030 dL_law_3031 ?_
  refine y_arg (q := 2) hX hN hz (by decide) rfl rfl dL_law_3032 dL_law_3033 dL_law_3035 dL_law_3036 dL_law_3037 ?_
  refine y_mcl (As := [_, _]) (rest := []) hL1 hR dL_law_3038 cfX11_walkersInState imX11_walkersInState seX11_walkersInState lL_345 rfl rfl rfl (Nat.zero_le _) (fun o Xm2 h2 hQ hL2 e1 e2 => ?_)
  obtain ⟨v, rfl, hv, ht, hS2, hg⟩ := hQ
  exact y_tlI (pc := 3041) ⟨dL_law_3041, ⟨dL_law_3043, dL_law_3044, dL_law_3047, dL_law_3049, dL_law_3054⟩, dL_law_3056, dL_law_3059, dL_law_3060, dL_law_3061, dL_law_3062, dL_law_3064, dL_law_3065, dL_law_3066, _, dL_law_3071, by decide⟩ hL2 hS2 hv ht (fun y => by rw [e1]; exact hg y) (fun h3 hL3 => hEnd _ _ _ hL3 hS2)
theorem g_meetingSteps (hZ : p_Zs G) (hZn : p_Zn G) (hX : p_Scr G b N xs) (hN : N ≤ 3072) (hz : 0 ≤ z ∧ z + 6 ≤ N) (hL : lHp Yc Ym o1 o2 (V, C, J) (Vm, Cm, Jm) h) (hS : lSm V C J Vm Cm) (hEnd : ∀ X' Xm' h', lHp Yc Ym o1 o2 X' Xm' h' → lS X' Xm' → SL G mL_law P 100 k n h' 3438 (lL b (Yc 0) (Ym 38) o1 o2 z) []) : SL G mL_law P 100 (7 + k) (493 + n) h 3074 (lL b (Yc 0) (Ym 38) o1 o2 z) [] := by
  refine SL.room (d' := 100) (k' := 2 + k) (n' := 12 + n) (Nat.le_refl _) (by omega) (by omega) ?_
  refine y_aload_n dL_law_3074 rfl ?_
  refine y_arg (q := 1) hX hN hz (by decide) rfl rfl dL_law_3075 dL_law_3076 dL_law_3078 dL_law_3079 dL_law_3080 ?_
  refine y_arg (q := 2) hX hN hz (by decide) rfl rfl dL_law_3081 dL_law_3082 dL_law_3084 dL_law_3085 dL_law_3086 ?_
  refine y_aload_n dL_law_3087 rfl ?_
  refine y_cls (As := [_, _]) (cv := cvI) (kd := kI) (Es := ["java/lang/IndexOutOfBoundsException"]) (mc := 2) (ms := 12) hL (fun v q => by obtain ⟨x, rfl⟩ := q; exact ⟨_, rfl⟩) (by decide) dL_law_3088 cfL_meetingSteps stL_meetingSteps lL_346 rfl rfl rfl rfl (fun hx kk => h_meetingSteps hx kk) (e_meetingSteps hZ hS (iI_rg _) (iI_rg _)) (fun X1 h1 k0 hL1 hR => ?_)
  refine y_istore (L' := lL6 b (Yc 0) (Ym 38) o1 o2 z k0) dL_law_3091 (by decide) rfl ?_
  refine y_aload_n dL_law_3093 rfl ?_
  refine y_arg (q := 1) hX hN hz (by decide) rfl rfl dL_law_3094 dL_law_3095 dL_law_3097 dL_law_3098 dL_law_3099 ?_
  refine y_arg (q := 2) hX hN hz (by decide) rfl rfl dL_law_3100 dL_law_3101 dL_law_3103 dL_law_3104 dL_law_3105 ?_
  refine y_mcl (As := [_, _]) (rest := []) hL1 hR dL_law_3106 cfX11_meetingSteps imX11_meetingSteps seX11_meetingSteps lL_348 rfl rfl rfl (Nat.zero_le _) (fun o Xm2 h2 hQ hL2 e1 e2 => ?_)
  obtain ⟨v, rfl, hv, ht, hS2, hg⟩ := hQ
  exact y_tlI (pc := 3109) ⟨dL_law_3109, ⟨dL_law_3111, dL_law_3112, dL_law_3115, dL_law_3117, dL_law_3122⟩, dL_law_3124, dL_law_3127, dL_law_3128, dL_law_3129, dL_law_3130, dL_law_3132, dL_law_3133, dL_law_3134, _, dL_law_3139, by decide⟩ hL2 hS2 hv ht (fun y => by rw [e1]; exact hg y) (fun h3 hL3 => hEnd _ _ _ hL3 hS2)
theorem g_totalSteps (hZ : p_Zs G) (hZn : p_Zn G) (hX : p_Scr G b N xs) (hN : N ≤ 3072) (hz : 0 ≤ z ∧ z + 6 ≤ N) (hL : lHp Yc Ym o1 o2 (V, C, J) (Vm, Cm, Jm) h) (hS : lSm V C J Vm Cm) (hEnd : ∀ X' Xm' h', lHp Yc Ym o1 o2 X' Xm' h' → lS X' Xm' → SL G mL_law P 100 k n h' 3438 (lL b (Yc 0) (Ym 38) o1 o2 z) []) : SL G mL_law P 100 (7 + k) (493 + n) h 3142 (lL b (Yc 0) (Ym 38) o1 o2 z) [] := by
  refine SL.room (d' := 100) (k' := k) (n' := n) (Nat.le_refl _) (by omega) (by omega) ?_
  refine y_aload_n dL_law_3142 rfl ?_
  refine y_clv (As := []) hL dL_law_3143 cfX10_totalSteps imX10_totalSteps seX10_totalSteps lL_349 rfl rfl rfl (e_totalSteps hZ hS ) (fun X1 h1 v hL1 hv hR => ?_)
  obtain ⟨x, rfl⟩ := hv
  refine y_aload_n dL_law_3146 rfl ?_
  refine y_mcl (As := []) (rest := [.int x]) hL1 hR dL_law_3147 cfX11_totalSteps imX11_totalSteps seX11_totalSteps lL_352 rfl rfl rfl (Nat.le_of_ble_eq_true rfl) (fun o Xm2 h2 hQ hL2 e1 e2 => ?_)
  obtain ⟨rfl, -, hS2⟩ := hQ
  exact y_same (pc := 3150) dL_law_3150 (by decide) (hEnd _ _ _ hL2 hS2)
theorem g_homeShare (hZ : p_Zs G) (hZn : p_Zn G) (hX : p_Scr G b N xs) (hN : N ≤ 3072) (hz : 0 ≤ z ∧ z + 6 ≤ N) (hL : lHp Yc Ym o1 o2 (V, C, J) (Vm, Cm, Jm) h) (hS : lSm V C J Vm Cm) (hEnd : ∀ X' Xm' h', lHp Yc Ym o1 o2 X' Xm' h' → lS X' Xm' → SL G mL_law P 100 k n h' 3438 (lL b (Yc 0) (Ym 38) o1 o2 z) []) : SL G mL_law P 100 (7 + k) (493 + n) h 3155 (lL b (Yc 0) (Ym 38) o1 o2 z) [] := by
  refine SL.room (d' := 100) (k' := k) (n' := n) (Nat.le_refl _) (by omega) (by omega) ?_
  refine y_aload_n dL_law_3155 rfl ?_
  refine y_clv (As := []) hL dL_law_3156 cfX10_homeShare imX10_homeShare seX10_homeShare lL_353 rfl rfl rfl (e_homeShare hZ hS) (fun X1 h1 v hL1 hv hR => ?_)
  obtain ⟨x, rfl, hf⟩ := hv
  refine y_f2d dL_law_3159 hf ?_
  refine y_dstore (L' := [some (.ref b), some (.ref (Yc 0)), some (.ref (Ym 38)), some (.ref o1), some (.ref o2), some (.int (iI z)), some (.double (FP.f2d x)), none, none, none]) dL_law_3160 (by decide) rfl ?_
  refine y_aload_n dL_law_3162 rfl ?_
  refine y_mcl (As := []) (rest := []) hL1 hR dL_law_3163 cfX11_homeShare imX11_homeShare seX11_homeShare lL_357 rfl rfl rfl (Nat.zero_le _) (fun o Xm2 h2 hQ hL2 e1 e2 => ?_)
  obtain ⟨rfl, -, hS2⟩ := hQ
  refine y_f2d dL_law_3166 hf ?_
  refine y_dstore (L' := [some (.ref b), some (.ref (Yc 0)), some (.ref (Ym 38)), some (.ref o1), some (.ref o2), some (.int (iI z)), some (.double (FP.f2d x)), none, some (.double (FP.f2d x)), none]) dL_law_3167 (by decide) rfl ?_
  have fin : SL G mL_law P 100 k n h2 3195 [some (.ref b), some (.ref (Yc 0)), some (.ref (Ym 38)), some (.ref o1), some (.ref o2), some (.int (iI z)), some (.double (FP.f2d x)), none, some (.double (FP.f2d x)), none] [] := by
    refine y_goto (tgt := 3438) dL_law_3195 (by decide) ?_
    exact SL.wk (p_subL.at (by repeat (first | exact subL_nil | refine subL_s ?_ | refine subL_n ?_))) (hEnd _ _ _ hL2 hS2)
  refine y_dload dL_law_3169 rfl ?_
  refine y_dload dL_law_3171 rfl ?_
  refine y_dcmp dL_law_3173 ?_
  refine y_if_eq (tgt := 3195) dL_law_3174 (by decide) (fun _ => fin) (fun w => ?_)
  refine y_dload dL_law_3177 rfl ?_
  refine y_dload dL_law_3179 rfl ?_
  refine y_dcmp dL_law_3181 ?_
  refine y_if_eq (tgt := 3193) dL_law_3182 (by decide) (fun w' => absurd w' w) (fun _ => ?_)
  refine y_dload dL_law_3185 rfl ?_
  refine y_dload dL_law_3187 rfl ?_
  refine y_dcmp dL_law_3189 ?_
  exact y_if_ne (tgt := 3195) dL_law_3190 (by decide) (fun _ => fin) (fun w' => absurd w' w)
theorem g_meanSetSize (hZ : p_Zs G) (hZn : p_Zn G) (hX : p_Scr G b N xs) (hN : N ≤ 3072) (hz : 0 ≤ z ∧ z + 6 ≤ N) (hL : lHp Yc Ym o1 o2 (V, C, J) (Vm, Cm, Jm) h) (hS : lSm V C J Vm Cm) (hEnd : ∀ X' Xm' h', lHp Yc Ym o1 o2 X' Xm' h' → lS X' Xm' → SL G mL_law P 100 k n h' 3438 (lL b (Yc 0) (Ym 38) o1 o2 z) []) : SL G mL_law P 100 (7 + k) (493 + n) h 3198 (lL b (Yc 0) (Ym 38) o1 o2 z) [] := by
  refine SL.room (d' := 100) (k' := 1 + k) (n' := 6 + n) (Nat.le_refl _) (by omega) (by omega) ?_
  refine y_aload_n dL_law_3198 rfl ?_
  refine y_arg (q := 1) hX hN hz (by decide) rfl rfl dL_law_3199 dL_law_3200 dL_law_3202 dL_law_3203 dL_law_3204 ?_
  refine y_aload dL_law_3205 rfl ?_
  refine y_clsD (As := [_]) (Es := ["java/lang/IndexOutOfBoundsException"]) (mc := 1) (ms := 6) hL (by decide) dL_law_3207 cfL_meanSetSize stL_meanSetSize lL_358 rfl rfl rfl rfl (fun hx kk => h_meanSetSize hx kk) (e_meanSetSize hZ hS (iI_rg _)) (fun X1 h1 k0 hL1 hR => ?_)
  refine y_istore (L' := lL6 b (Yc 0) (Ym 38) o1 o2 z k0) dL_law_3210 (by decide) rfl ?_
  refine y_aload_n dL_law_3212 rfl ?_
  refine y_arg (q := 1) hX hN hz (by decide) rfl rfl dL_law_3213 dL_law_3214 dL_law_3216 dL_law_3217 dL_law_3218 ?_
  refine y_mcl (As := [_]) (rest := []) hL1 hR dL_law_3219 cfX11_meanSetSize imX11_meanSetSize seX11_meanSetSize lL_361 rfl rfl rfl (Nat.zero_le _) (fun o Xm2 h2 hQ hL2 e1 e2 => ?_)
  obtain ⟨v, rfl, hv, ht, hS2, hg⟩ := hQ
  obtain ⟨x, rfl⟩ := hv
  refine y_dstore (L' := [some (.ref b), some (.ref (Yc 0)), some (.ref (Ym 38)), some (.ref o1), some (.ref o2), some (.int (iI z)), some (.int k0), some (.double x), none, none]) dL_law_3222 (by decide) rfl ?_
  refine y_thr (pc := 3224) ⟨dL_law_3224, dL_law_3225, dL_law_3228, dL_law_3230, dL_law_3235⟩ hL2 rfl rfl ht (fun h3 hL3 f1 f2 => ?_)
  have fin : SL G mL_law P 100 k n h3 3272 [some (.ref b), some (.ref (Yc 0)), some (.ref (Ym 38)), some (.ref o1), some (.ref o2), some (.int (iI z)), some (.int k0), some (.double x), none, none] [] := by
    refine y_goto (tgt := 3438) dL_law_3272 (by decide) ?_
    exact SL.wk (p_subL.at (by repeat (first | exact subL_nil | refine subL_s ?_ | refine subL_n ?_))) (hEnd _ _ _ hL3 hS2)
  refine y_if_ne (tgt := 3272) dL_law_3237 (by decide) (fun _ => fin) (fun y => ?_)
  obtain ⟨x', f, q1, q2, q3⟩ := hg y
  obtain rfl : x = x' := by injection q1
  have q2 := (f2.trans e2).trans q2
  refine y_aload dL_law_3240 rfl ?_
  refine y_iconst (v := 0) dL_law_3242 rfl ?_
  refine y_daload (N := 1) (f := f) dL_law_3243 q2 v01 ?_
  refine y_dload dL_law_3244 rfl ?_
  refine y_dcmp dL_law_3246 ?_
  refine y_if_eq (tgt := 3272) dL_law_3247 (by decide) (fun _ => fin) (fun w => ?_)
  refine y_aload dL_law_3250 rfl ?_
  refine y_iconst (v := 0) dL_law_3252 rfl ?_
  refine y_daload (N := 1) (f := f) dL_law_3253 q2 v01 ?_
  refine y_aload dL_law_3254 rfl ?_
  refine y_iconst (v := 0) dL_law_3256 rfl ?_
  refine y_daload (N := 1) (f := f) dL_law_3257 q2 v01 ?_
  refine y_dcmp dL_law_3258 ?_
  refine y_if_eq (tgt := 3270) dL_law_3259 (by decide) (fun w' => absurd w' (by rw [c00, q3] at w ⊢; exact w)) (fun _ => ?_)
  refine y_dload dL_law_3262 rfl ?_
  refine y_dload dL_law_3264 rfl ?_
  refine y_dcmp dL_law_3266 ?_
  exact y_if_ne (tgt := 3272) dL_law_3267 (by decide) (fun _ => fin) (fun w' => absurd w' (by rw [c00, q3] at w; exact w))
theorem g_writeWord (hZ : p_Zs G) (hZn : p_Zn G) (hX : p_Scr G b N xs) (hN : N ≤ 3072) (hz : 0 ≤ z ∧ z + 6 ≤ N) (hL : lHp Yc Ym o1 o2 (V, C, J) (Vm, Cm, Jm) h) (hS : lSm V C J Vm Cm) (hEnd : ∀ X' Xm' h', lHp Yc Ym o1 o2 X' Xm' h' → lS X' Xm' → SL G mL_law P 100 k n h' 3438 (lL b (Yc 0) (Ym 38) o1 o2 z) []) : SL G mL_law P 100 (7 + k) (493 + n) h 3275 (lL b (Yc 0) (Ym 38) o1 o2 z) [] := by
  refine SL.room (d' := 100) (k' := 2 + k) (n' := 12 + n) (Nat.le_refl _) (by omega) (by omega) ?_
  refine y_aload_n dL_law_3275 rfl ?_
  refine y_arg (q := 1) hX hN hz (by decide) rfl rfl dL_law_3276 dL_law_3277 dL_law_3279 dL_law_3280 dL_law_3281 ?_
  refine y_arg (q := 2) hX hN hz (by decide) rfl rfl dL_law_3282 dL_law_3283 dL_law_3285 dL_law_3286 dL_law_3287 ?_
  refine y_arg (q := 3) hX hN hz (by decide) rfl rfl dL_law_3288 dL_law_3289 dL_law_3291 dL_law_3292 dL_law_3293 ?_
  refine y_i2l dL_law_3294 ?_
  refine y_bipush (v := 32) dL_law_3295 (by decide) ?_
  refine y_lshl dL_law_3297 ?_
  refine y_arg (q := 4) hX hN hz (by decide) rfl rfl dL_law_3298 dL_law_3299 dL_law_3301 dL_law_3302 dL_law_3303 ?_
  refine y_i2l dL_law_3304 ?_
  refine y_ldc2 dL_law_3305 kL_362 ?_
  refine y_land dL_law_3308 ?_
  refine y_lor dL_law_3309 ?_
  refine y_tj (lI_of _) ?_
  refine y_aload_n dL_law_3310 rfl ?_
  refine y_cls (As := [_, _, _]) (cv := cvI) (kd := kI) (Es := ["java/lang/IndexOutOfBoundsException", "java/lang/IllegalArgumentException"]) (mc := 2) (ms := 12) hL (fun v q => by obtain ⟨x, rfl⟩ := q; exact ⟨_, rfl⟩) (by decide) dL_law_3311 cfL_writeWord stL_writeWord lL_364 rfl rfl rfl rfl (fun hx kk => h_writeWord hZn hx kk) (e_writeWord hZ hS (iI_rg _) (iI_rg _) (lI_rg _)) (fun X1 h1 k0 hL1 hR => ?_)
  refine y_istore (L' := lL6 b (Yc 0) (Ym 38) o1 o2 z k0) dL_law_3314 (by decide) rfl ?_
  refine y_aload_n dL_law_3316 rfl ?_
  refine y_arg (q := 1) hX hN hz (by decide) rfl rfl dL_law_3317 dL_law_3318 dL_law_3320 dL_law_3321 dL_law_3322 ?_
  refine y_arg (q := 2) hX hN hz (by decide) rfl rfl dL_law_3323 dL_law_3324 dL_law_3326 dL_law_3327 dL_law_3328 ?_
  refine y_arg (q := 3) hX hN hz (by decide) rfl rfl dL_law_3329 dL_law_3330 dL_law_3332 dL_law_3333 dL_law_3334 ?_
  refine y_i2l dL_law_3335 ?_
  refine y_bipush (v := 32) dL_law_3336 (by decide) ?_
  refine y_lshl dL_law_3338 ?_
  refine y_arg (q := 4) hX hN hz (by decide) rfl rfl dL_law_3339 dL_law_3340 dL_law_3342 dL_law_3343 dL_law_3344 ?_
  refine y_i2l dL_law_3345 ?_
  refine y_ldc2 dL_law_3346 kL_362 ?_
  refine y_land dL_law_3349 ?_
  refine y_lor dL_law_3350 ?_
  refine y_tj (lI_of _) ?_
  refine y_mcl (As := [_, _, _]) (rest := []) hL1 hR dL_law_3351 cfX11_writeWord imX11_writeWord seX11_writeWord lL_367 rfl rfl rfl (Nat.zero_le _) (fun o Xm2 h2 hQ hL2 e1 e2 => ?_)
  obtain ⟨v, rfl, hv, ht, hS2, hg⟩ := hQ
  exact y_tlI (pc := 3354) ⟨dL_law_3354, ⟨dL_law_3356, dL_law_3357, dL_law_3360, dL_law_3362, dL_law_3367⟩, dL_law_3369, dL_law_3372, dL_law_3373, dL_law_3374, dL_law_3375, dL_law_3377, dL_law_3378, dL_law_3379, _, dL_law_3384, by decide⟩ hL2 hS2 hv ht (fun y => by rw [e1]; exact hg y) (fun h3 hL3 => hEnd _ _ _ hL3 hS2)
theorem g_writeDifference (hZ : p_Zs G) (hZn : p_Zn G) (hX : p_Scr G b N xs) (hN : N ≤ 3072) (hz : 0 ≤ z ∧ z + 6 ≤ N) (hL : lHp Yc Ym o1 o2 (V, C, J) (Vm, Cm, Jm) h) (hS : lSm V C J Vm Cm) (hEnd : ∀ X' Xm' h', lHp Yc Ym o1 o2 X' Xm' h' → lS X' Xm' → SL G mL_law P 100 k n h' 3438 (lL b (Yc 0) (Ym 38) o1 o2 z) []) : SL G mL_law P 100 (7 + k) (493 + n) h 3387 (lL b (Yc 0) (Ym 38) o1 o2 z) [] := by
  refine SL.room (d' := 100) (k' := k) (n' := n) (Nat.le_refl _) (by omega) (by omega) ?_
  refine y_aload_n dL_law_3387 rfl ?_
  refine y_clv (As := []) hL dL_law_3388 cfX10_writeDifference imX10_writeDifference seX10_writeDifference lL_368 rfl rfl rfl (e_writeDifference hZ hS ) (fun X1 h1 v hL1 hv hR => ?_)
  obtain ⟨x, rfl⟩ := hv
  refine y_aload_n dL_law_3391 rfl ?_
  refine y_mcl (As := []) (rest := [.int x]) hL1 hR dL_law_3392 cfX11_writeDifference imX11_writeDifference seX11_writeDifference lL_371 rfl rfl rfl (Nat.le_of_ble_eq_true rfl) (fun o Xm2 h2 hQ hL2 e1 e2 => ?_)
  obtain ⟨rfl, -, hS2⟩ := hQ
  exact y_same (pc := 3395) dL_law_3395 (by decide) (hEnd _ _ _ hL2 hS2)
theorem g_writeSharedWord (hZ : p_Zs G) (hZn : p_Zn G) (hX : p_Scr G b N xs) (hN : N ≤ 3072) (hz : 0 ≤ z ∧ z + 6 ≤ N) (hL : lHp Yc Ym o1 o2 (V, C, J) (Vm, Cm, Jm) h) (hS : lSm V C J Vm Cm) (hEnd : ∀ X' Xm' h', lHp Yc Ym o1 o2 X' Xm' h' → lS X' Xm' → SL G mL_law P 100 k n h' 3438 (lL b (Yc 0) (Ym 38) o1 o2 z) []) : SL G mL_law P 100 (7 + k) (493 + n) h 3400 (lL b (Yc 0) (Ym 38) o1 o2 z) [] := by
  refine SL.room (d' := 100) (k' := k) (n' := n) (Nat.le_refl _) (by omega) (by omega) ?_
  refine y_aload_n dL_law_3400 rfl ?_
  refine y_clv (As := []) hL dL_law_3401 cfX10_writeSharedWord imX10_writeSharedWord seX10_writeSharedWord lL_372 rfl rfl rfl (e_writeSharedWord hZ hS ) (fun X1 h1 v hL1 hv hR => ?_)
  obtain ⟨x, rfl⟩ := hv
  refine y_aload_n dL_law_3404 rfl ?_
  refine y_mcl (As := []) (rest := [.int x]) hL1 hR dL_law_3405 cfX11_writeSharedWord imX11_writeSharedWord seX11_writeSharedWord lL_375 rfl rfl rfl (Nat.le_of_ble_eq_true rfl) (fun o Xm2 h2 hQ hL2 e1 e2 => ?_)
  obtain ⟨rfl, -, hS2⟩ := hQ
  exact y_same (pc := 3408) dL_law_3408 (by decide) (hEnd _ _ _ hL2 hS2)
theorem g_reportByte (hZ : p_Zs G) (hZn : p_Zn G) (hX : p_Scr G b N xs) (hN : N ≤ 3072) (hz : 0 ≤ z ∧ z + 6 ≤ N) (hL : lHp Yc Ym o1 o2 (V, C, J) (Vm, Cm, Jm) h) (hS : lSm V C J Vm Cm) (hEnd : ∀ X' Xm' h', lHp Yc Ym o1 o2 X' Xm' h' → lS X' Xm' → SL G mL_law P 100 k n h' 3438 (lL b (Yc 0) (Ym 38) o1 o2 z) []) : SL G mL_law P 100 (7 + k) (493 + n) h 3413 (lL b (Yc 0) (Ym 38) o1 o2 z) [] := by
  refine SL.room (d' := 100) (k' := k) (n' := n) (Nat.le_refl _) (by omega) (by omega) ?_
  refine y_aload_n dL_law_3413 rfl ?_
  refine y_arg (q := 1) hX hN hz (by decide) rfl rfl dL_law_3414 dL_law_3415 dL_law_3417 dL_law_3418 dL_law_3419 ?_
  refine y_clv (As := [_]) hL dL_law_3420 cfX10_reportByte imX10_reportByte seX10_reportByte lL_376 rfl rfl rfl (e_reportByte hZ hS (iI_rg _)) (fun X1 h1 v hL1 hv hR => ?_)
  obtain ⟨x, rfl⟩ := hv
  refine y_aload_n dL_law_3423 rfl ?_
  refine y_arg (q := 1) hX hN hz (by decide) rfl rfl dL_law_3424 dL_law_3425 dL_law_3427 dL_law_3428 dL_law_3429 ?_
  refine y_mcl (As := [_]) (rest := [.int x]) hL1 hR dL_law_3430 cfX11_reportByte imX11_reportByte seX11_reportByte lL_379 rfl rfl rfl (Nat.le_of_ble_eq_true rfl) (fun o Xm2 h2 hQ hL2 e1 e2 => ?_)
  obtain ⟨rfl, -, hS2⟩ := hQ
  exact y_same (pc := 3433) dL_law_3433 (by decide) (hEnd _ _ _ hL2 hS2)
end C5d
