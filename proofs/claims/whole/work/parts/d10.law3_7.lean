section LAW3
variable {p : Program} {l : Launch} {e : Env} {s : State} {m : MethodId} {below : List Frame} {meth : Method} {c : Code} {n : Nat} {i : Int} {X : KX} {cJ : ClassId} {kS : Nat → Nat} {b L : Nat} {xs : Nat → Int32}
variable {ad pa pb qa qb ra rb : Nat → Nat} {ha hb : Nat → Nat → Nat} {d rr : Nat → Nat} {oa : Nat}
set_option maxHeartbeats 1000000 in
set_option maxRecDepth 100000 in
theorem st_monthsToFreedom (G : LF p l s m meth c b L xs X cJ kS) (hi : 0 ≤ i ∧ i + 6 ≤ L) (hn : n < 1000) (k : GO p l e s m below meth c b X cJ ad pa pb qa qb ra rb ha hb d rr oa i n 3317) : GO p l e s m below meth c b X cJ ad pa pb qa qb ra rb ha hb d rr oa i (n + 1) 2958 := by
  intro Z g Y H locs ls hS hw hl
  have E := G.1
  refine lv_aload_n E.1 E.2.1 dL_law_2958 rfl (lv_at hl 3 rfl) ?_
  refine lz_c7 (rest := []) G hw (vX7_monthsToFreedom l X ad pa pb qa qb ra rb ha hb Z Y hS).toE (cwV 0 E.2.2.2.2 gL_law_X7_monthsToFreedom rfl rfl rfl (by decide +kernel) ⟨Nat.le_of_ble_eq_true rfl, Nat.le_of_ble_eq_true rfl⟩) hl.1 rfl rfl (Nat.le_of_ble_eq_true rfl) dL_law_2959 ⟨by show 601024 - 10 * (n + 1) + 0 ≤ 601024; omega, by show 7293034 - 60 * (n + 1) + 0 ≤ 7293034; omega⟩ (fun z9 Z9 H locs hF7 hw => ?_)
  refine lv_aload_n E.1 E.2.1 dL_law_2962 rfl (lv_at hl 2 rfl) ?_
  refine lz_c8 (rest := [.int (iI z9)]) G hw (vX8_monthsToFreedom l X d rr Z Y hS).toE (cwV 0 E.2.2.2.2 gL_law_X8_monthsToFreedom rfl rfl rfl (by decide +kernel) ⟨Nat.le_of_ble_eq_true rfl, Nat.le_of_ble_eq_true rfl⟩) hl.1 rfl rfl (Nat.le_of_ble_eq_true rfl) dL_law_2963 ⟨by show 601024 - 10 * (n + 1) + 0 + 0 ≤ 601024; omega, by show 7293034 - 60 * (n + 1) + 0 + 0 ≤ 7293034; omega⟩ (fun b9 Y9 H locs hF8 hw => ?_)
  obtain ⟨hJ, hS9⟩ := J_monthsToFreedom hS  hF7 hF8
  refine lv_icmp_eq (tgt := 3317) E.1 E.2.1 dL_law_2966 rfl (fun _ => ?_) (fun q => absurd (by rw [hJ]) q)
  exact lz_on k hS9 hw hl (by omega) (by omega)
set_option maxHeartbeats 1000000 in
set_option maxRecDepth 100000 in
theorem st_budgetMonths (G : LF p l s m meth c b L xs X cJ kS) (hi : 0 ≤ i ∧ i + 6 ≤ L) (hn : n < 1000) (k : GO p l e s m below meth c b X cJ ad pa pb qa qb ra rb ha hb d rr oa i n 3317) : GO p l e s m below meth c b X cJ ad pa pb qa qb ra rb ha hb d rr oa i (n + 1) 2971 := by
  intro Z g Y H locs ls hS hw hl
  have E := G.1
  refine lv_aload_n E.1 E.2.1 dL_law_2971 rfl (lv_at hl 3 rfl) ?_
  refine lz_rd (i := i) (j := 1) G hw (by omega) (lv_at hl 4 rfl) (lv_at hl 0 rfl) dL_law_2972 dL_law_2973 dL_law_2975 dL_law_2976 dL_law_2977 ?_
  refine lz_rd (i := i) (j := 2) G hw (by omega) (lv_at hl 4 rfl) (lv_at hl 0 rfl) dL_law_2978 dL_law_2979 dL_law_2981 dL_law_2982 dL_law_2983 ?_
  refine lz_bo G (i32_of _) dL_law_2984 dL_law_2987 dL_law_2988 dL_law_2991 ?_
  refine lv_aload_n E.1 E.2.1 dL_law_2992 rfl (lv_at hl 1 rfl) ?_
  refine lz_cL (rest := []) G hw (kL_budgetMonths l X cJ kS G.2.2.2.2.2.2.2.2.1 ad pa pb qa qb ra rb ha hb Z Y hS (xz xs (i + 1)) (bz (xz xs (i + 2))) (i32_of _) (bz_r _) oa g) (vx_cwSW 4 E.2.2.2.2 gL_law_L_budgetMonths rfl rfl rfl (by decide +kernel) ⟨Nat.le_of_ble_eq_true rfl, Nat.le_of_ble_eq_true rfl⟩) hl.1 rfl rfl (Nat.le_of_ble_eq_true rfl) dL_law_2993 ⟨by show 601024 - 10 * (n + 1) + 1 ≤ 601024; omega, by show 7293034 - 60 * (n + 1) + 6 ≤ 7293034; omega⟩ (fun k9 Z9 g9 H locs hF7 hw => ?_)
  have hkr : 0 ≤ k9 ∧ k9 ≤ 3 := by
    rcases hF7 with ⟨h, -⟩ | ⟨h, -⟩ <;> omega
  refine lv_istore (lv' := (5, .int (iI k9)) :: LVi b ad d oa i) E.1 E.2.1 dL_law_2996 hl (by decide) rfl (fun ls hl => ?_)
  refine lv_aload_n E.1 E.2.1 dL_law_2998 rfl (lv_at hl 3 rfl) ?_
  refine lz_rd (i := i) (j := 1) G hw (by omega) (lv_at hl 5 rfl) (lv_at hl 1 rfl) dL_law_2999 dL_law_3000 dL_law_3002 dL_law_3003 dL_law_3004 ?_
  refine lz_rd (i := i) (j := 2) G hw (by omega) (lv_at hl 5 rfl) (lv_at hl 1 rfl) dL_law_3005 dL_law_3006 dL_law_3008 dL_law_3009 dL_law_3010 ?_
  refine lz_bo G (i32_of _) dL_law_3011 dL_law_3014 dL_law_3015 dL_law_3018 ?_
  refine lz_c8 (rest := []) G hw (vX8_budgetMonths l X d rr Z Y hS (xz xs (i + 1)) (bz (xz xs (i + 2))) (i32_of _) (bz_r _)).toE (cwV 2 E.2.2.2.2 gL_law_X8_budgetMonths rfl rfl rfl (by decide +kernel) ⟨Nat.le_of_ble_eq_true rfl, Nat.le_of_ble_eq_true rfl⟩) hl.1 rfl rfl (Nat.le_of_ble_eq_true rfl) dL_law_3019 ⟨by show 601024 - 10 * (n + 1) + 1 + 0 ≤ 601024; omega, by show 7293034 - 60 * (n + 1) + 6 + 0 ≤ 7293034; omega⟩ (fun b9 Y9 H locs hF8 hw => ?_)
  exact lz_tail G ⟨dL_law_3022, dL_law_3024, dL_law_3025, dL_law_3028, dL_law_3030, dL_law_3035⟩ ⟨dL_law_3037, dL_law_3040, dL_law_3041, dL_law_3042, dL_law_3043, dL_law_3045, dL_law_3046, dL_law_3047⟩ dL_law_3052 rfl hkr (J_budgetMonths hS (bz_r _) hF7 hF8) hw hl k (by omega) (by omega)
set_option maxHeartbeats 1000000 in
set_option maxRecDepth 100000 in
theorem st_budgetInterest (G : LF p l s m meth c b L xs X cJ kS) (hi : 0 ≤ i ∧ i + 6 ≤ L) (hn : n < 1000) (k : GO p l e s m below meth c b X cJ ad pa pb qa qb ra rb ha hb d rr oa i n 3317) : GO p l e s m below meth c b X cJ ad pa pb qa qb ra rb ha hb d rr oa i (n + 1) 3055 := by
  intro Z g Y H locs ls hS hw hl
  have E := G.1
  refine lv_aload_n E.1 E.2.1 dL_law_3055 rfl (lv_at hl 3 rfl) ?_
  refine lz_rd (i := i) (j := 1) G hw (by omega) (lv_at hl 4 rfl) (lv_at hl 0 rfl) dL_law_3056 dL_law_3057 dL_law_3059 dL_law_3060 dL_law_3061 ?_
  refine lz_rd (i := i) (j := 2) G hw (by omega) (lv_at hl 4 rfl) (lv_at hl 0 rfl) dL_law_3062 dL_law_3063 dL_law_3065 dL_law_3066 dL_law_3067 ?_
  refine lz_bo G (i32_of _) dL_law_3068 dL_law_3071 dL_law_3072 dL_law_3075 ?_
  refine lv_aload_n E.1 E.2.1 dL_law_3076 rfl (lv_at hl 1 rfl) ?_
  refine lz_cL (rest := []) G hw (kL_budgetInterest l X cJ kS G.2.2.2.2.2.2.2.2.1 ad pa pb qa qb ra rb ha hb Z Y hS (xz xs (i + 1)) (bz (xz xs (i + 2))) (i32_of _) (bz_r _) oa g) (vx_cwSW 4 E.2.2.2.2 gL_law_L_budgetInterest rfl rfl rfl (by decide +kernel) ⟨Nat.le_of_ble_eq_true rfl, Nat.le_of_ble_eq_true rfl⟩) hl.1 rfl rfl (Nat.le_of_ble_eq_true rfl) dL_law_3077 ⟨by show 601024 - 10 * (n + 1) + 1 ≤ 601024; omega, by show 7293034 - 60 * (n + 1) + 6 ≤ 7293034; omega⟩ (fun k9 Z9 g9 H locs hF7 hw => ?_)
  have hkr : 0 ≤ k9 ∧ k9 ≤ 3 := by
    rcases hF7 with ⟨h, -⟩ | ⟨h, -⟩ <;> omega
  refine lv_istore (lv' := (5, .int (iI k9)) :: LVi b ad d oa i) E.1 E.2.1 dL_law_3080 hl (by decide) rfl (fun ls hl => ?_)
  refine lv_aload_n E.1 E.2.1 dL_law_3082 rfl (lv_at hl 3 rfl) ?_
  refine lz_rd (i := i) (j := 1) G hw (by omega) (lv_at hl 5 rfl) (lv_at hl 1 rfl) dL_law_3083 dL_law_3084 dL_law_3086 dL_law_3087 dL_law_3088 ?_
  refine lz_rd (i := i) (j := 2) G hw (by omega) (lv_at hl 5 rfl) (lv_at hl 1 rfl) dL_law_3089 dL_law_3090 dL_law_3092 dL_law_3093 dL_law_3094 ?_
  refine lz_bo G (i32_of _) dL_law_3095 dL_law_3098 dL_law_3099 dL_law_3102 ?_
  refine lz_c8 (rest := []) G hw (vX8_budgetInterest l X d rr Z Y hS (xz xs (i + 1)) (bz (xz xs (i + 2))) (i32_of _) (bz_r _)).toE (cwV 2 E.2.2.2.2 gL_law_X8_budgetInterest rfl rfl rfl (by decide +kernel) ⟨Nat.le_of_ble_eq_true rfl, Nat.le_of_ble_eq_true rfl⟩) hl.1 rfl rfl (Nat.le_of_ble_eq_true rfl) dL_law_3103 ⟨by show 601024 - 10 * (n + 1) + 1 + 0 ≤ 601024; omega, by show 7293034 - 60 * (n + 1) + 6 + 0 ≤ 7293034; omega⟩ (fun b9 Y9 H locs hF8 hw => ?_)
  exact lz_tail G ⟨dL_law_3106, dL_law_3108, dL_law_3109, dL_law_3112, dL_law_3114, dL_law_3119⟩ ⟨dL_law_3121, dL_law_3124, dL_law_3125, dL_law_3126, dL_law_3127, dL_law_3129, dL_law_3130, dL_law_3131⟩ dL_law_3136 rfl hkr (J_budgetInterest hS (bz_r _) hF7 hF8) hw hl k (by omega) (by omega)
set_option maxHeartbeats 1000000 in
set_option maxRecDepth 100000 in
theorem st_averageRate (G : LF p l s m meth c b L xs X cJ kS) (hi : 0 ≤ i ∧ i + 6 ≤ L) (hn : n < 1000) (k : GO p l e s m below meth c b X cJ ad pa pb qa qb ra rb ha hb d rr oa i n 3317) : GO p l e s m below meth c b X cJ ad pa pb qa qb ra rb ha hb d rr oa i (n + 1) 3139 := by
  intro Z g Y H locs ls hS hw hl
  have E := G.1
  refine lv_aload_n E.1 E.2.1 dL_law_3139 rfl (lv_at hl 3 rfl) ?_
  refine lz_c7 (rest := []) G hw (vX7_averageRate l X ad pa pb qa qb ra rb ha hb Z Y hS).toE (cwV 0 E.2.2.2.2 gL_law_X7_averageRate rfl rfl rfl (by decide +kernel) ⟨Nat.le_of_ble_eq_true rfl, Nat.le_of_ble_eq_true rfl⟩) hl.1 rfl rfl (Nat.le_of_ble_eq_true rfl) dL_law_3140 ⟨by show 601024 - 10 * (n + 1) + 0 ≤ 601024; omega, by show 7293034 - 60 * (n + 1) + 0 ≤ 7293034; omega⟩ (fun z9 Z9 H locs hF7 hw => ?_)
  refine lv_dstore (lv' := (5, .double z9) :: LVi b ad d oa i) E.1 E.2.1 dL_law_3143 hl (by decide) rfl (fun ls hl => ?_)
  refine lv_aload_n E.1 E.2.1 dL_law_3145 rfl (lv_at hl 3 rfl) ?_
  refine lz_c8 (rest := []) G hw (vX8_averageRate l X d rr Z Y hS).toE (cwV 0 E.2.2.2.2 gL_law_X8_averageRate rfl rfl rfl (by decide +kernel) ⟨Nat.le_of_ble_eq_true rfl, Nat.le_of_ble_eq_true rfl⟩) hl.1 rfl rfl (Nat.le_of_ble_eq_true rfl) dL_law_3146 ⟨by show 601024 - 10 * (n + 1) + 0 + 0 ≤ 601024; omega, by show 7293034 - 60 * (n + 1) + 0 + 0 ≤ 7293034; omega⟩ (fun b9 Y9 H locs hF8 hw => ?_)
  obtain ⟨hJ, hS9⟩ := J_averageRate hS  hF7 hF8
  subst hJ
  exact lz_dbl G ⟨dL_law_3149, dL_law_3151, dL_law_3153, dL_law_3155, dL_law_3156, dL_law_3159, dL_law_3161, dL_law_3163, dL_law_3164, dL_law_3167, dL_law_3169, dL_law_3171, dL_law_3172⟩ dL_law_3177 rfl hS9 hw hl k (by omega) (by omega)
set_option maxHeartbeats 1000000 in
set_option maxRecDepth 100000 in
theorem st_closedShare (G : LF p l s m meth c b L xs X cJ kS) (hi : 0 ≤ i ∧ i + 6 ≤ L) (hn : n < 1000) (k : GO p l e s m below meth c b X cJ ad pa pb qa qb ra rb ha hb d rr oa i n 3317) : GO p l e s m below meth c b X cJ ad pa pb qa qb ra rb ha hb d rr oa i (n + 1) 3180 := by
  intro Z g Y H locs ls hS hw hl
  have E := G.1
  refine lv_aload_n E.1 E.2.1 dL_law_3180 rfl (lv_at hl 3 rfl) ?_
  refine lz_c7 (rest := []) G hw (vX7_closedShare l X ad pa pb qa qb ra rb ha hb Z Y hS).toE (cwV 0 E.2.2.2.2 gL_law_X7_closedShare rfl rfl rfl (by decide +kernel) ⟨Nat.le_of_ble_eq_true rfl, Nat.le_of_ble_eq_true rfl⟩) hl.1 rfl rfl (Nat.le_of_ble_eq_true rfl) dL_law_3181 ⟨by show 601024 - 10 * (n + 1) + 0 ≤ 601024; omega, by show 7293034 - 60 * (n + 1) + 0 ≤ 7293034; omega⟩ (fun z9 Z9 H locs hF7 hw => ?_)
  refine lv_f2d E.1 E.2.1 dL_law_3184 (lz_f2d (hS.1.1.1) hF7) ?_
  refine lv_dstore (lv' := (5, .double (FP.f2d z9)) :: LVi b ad d oa i) E.1 E.2.1 dL_law_3185 hl (by decide) rfl (fun ls hl => ?_)
  refine lv_aload_n E.1 E.2.1 dL_law_3187 rfl (lv_at hl 3 rfl) ?_
  refine lz_c8 (rest := []) G hw (vX8_closedShare l X d rr Z Y hS).toE (cwV 0 E.2.2.2.2 gL_law_X8_closedShare rfl rfl rfl (by decide +kernel) ⟨Nat.le_of_ble_eq_true rfl, Nat.le_of_ble_eq_true rfl⟩) hl.1 rfl rfl (Nat.le_of_ble_eq_true rfl) dL_law_3188 ⟨by show 601024 - 10 * (n + 1) + 0 + 0 ≤ 601024; omega, by show 7293034 - 60 * (n + 1) + 0 + 0 ≤ 7293034; omega⟩ (fun b9 Y9 H locs hF8 hw => ?_)
  obtain ⟨hJ, hS9⟩ := J_closedShare hS  hF7 hF8
  subst hJ
  refine lv_f2d E.1 E.2.1 dL_law_3191 (lz_f2d (hS.1.1.1) hF7) ?_
  exact lz_dbl G ⟨dL_law_3192, dL_law_3194, dL_law_3196, dL_law_3198, dL_law_3199, dL_law_3202, dL_law_3204, dL_law_3206, dL_law_3207, dL_law_3210, dL_law_3212, dL_law_3214, dL_law_3215⟩ dL_law_3220 rfl hS9 hw hl k (by omega) (by omega)
set_option maxHeartbeats 1000000 in
set_option maxRecDepth 100000 in
theorem st_violations (G : LF p l s m meth c b L xs X cJ kS) (hi : 0 ≤ i ∧ i + 6 ≤ L) (hn : n < 1000) (k : GO p l e s m below meth c b X cJ ad pa pb qa qb ra rb ha hb d rr oa i n 3317) : GO p l e s m below meth c b X cJ ad pa pb qa qb ra rb ha hb d rr oa i (n + 1) 3223 := by
  intro Z g Y H locs ls hS hw hl
  have E := G.1
  refine lv_aload_n E.1 E.2.1 dL_law_3223 rfl (lv_at hl 3 rfl) ?_
  refine lz_c7 (rest := []) G hw (vX7_violations l X ad pa pb qa qb ra rb ha hb Z Y hS).toE (cwV 0 E.2.2.2.2 gL_law_X7_violations rfl rfl rfl (by decide +kernel) ⟨Nat.le_of_ble_eq_true rfl, Nat.le_of_ble_eq_true rfl⟩) hl.1 rfl rfl (Nat.le_of_ble_eq_true rfl) dL_law_3224 ⟨by show 601024 - 10 * (n + 1) + 0 ≤ 601024; omega, by show 7293034 - 60 * (n + 1) + 0 ≤ 7293034; omega⟩ (fun z9 Z9 H locs hF7 hw => ?_)
  refine lv_aload_n E.1 E.2.1 dL_law_3227 rfl (lv_at hl 2 rfl) ?_
  refine lz_c8 (rest := [.int (iI z9)]) G hw (vX8_violations l X d rr Z Y hS).toE (cwV 0 E.2.2.2.2 gL_law_X8_violations rfl rfl rfl (by decide +kernel) ⟨Nat.le_of_ble_eq_true rfl, Nat.le_of_ble_eq_true rfl⟩) hl.1 rfl rfl (Nat.le_of_ble_eq_true rfl) dL_law_3228 ⟨by show 601024 - 10 * (n + 1) + 0 + 0 ≤ 601024; omega, by show 7293034 - 60 * (n + 1) + 0 + 0 ≤ 7293034; omega⟩ (fun b9 Y9 H locs hF8 hw => ?_)
  obtain ⟨hJ, hS9⟩ := J_violations hS  hF7 hF8
  refine lv_icmp_eq (tgt := 3317) E.1 E.2.1 dL_law_3231 rfl (fun _ => ?_) (fun q => absurd (by rw [hJ]) q)
  exact lz_on k hS9 hw hl (by omega) (by omega)
set_option maxHeartbeats 1000000 in
set_option maxRecDepth 100000 in
theorem st_writeSchedule (G : LF p l s m meth c b L xs X cJ kS) (hi : 0 ≤ i ∧ i + 6 ≤ L) (hn : n < 1000) (k : GO p l e s m below meth c b X cJ ad pa pb qa qb ra rb ha hb d rr oa i n 3317) : GO p l e s m below meth c b X cJ ad pa pb qa qb ra rb ha hb d rr oa i (n + 1) 3236 := by
  intro Z g Y H locs ls hS hw hl
  have E := G.1
  refine lv_aload_n E.1 E.2.1 dL_law_3236 rfl (lv_at hl 3 rfl) ?_
  refine lz_rd (i := i) (j := 1) G hw (by omega) (lv_at hl 4 rfl) (lv_at hl 0 rfl) dL_law_3237 dL_law_3238 dL_law_3240 dL_law_3241 dL_law_3242 ?_
  refine lv_aload_n E.1 E.2.1 dL_law_3243 rfl (lv_at hl 1 rfl) ?_
  refine lz_cL (rest := []) G hw (kL_writeSchedule l X cJ kS G.2.2.2.2.2.2.2.2.1 ad pa pb qa qb ra rb ha hb Z Y hS (xz xs (i + 1)) (i32_of _) oa g) (vx_cwSW 3 E.2.2.2.2 gL_law_L_writeSchedule rfl rfl rfl (by decide +kernel) ⟨Nat.le_of_ble_eq_true rfl, Nat.le_of_ble_eq_true rfl⟩) hl.1 rfl rfl (Nat.le_of_ble_eq_true rfl) dL_law_3244 ⟨by show 601024 - 10 * (n + 1) + 1 ≤ 601024; omega, by show 7293034 - 60 * (n + 1) + 6 ≤ 7293034; omega⟩ (fun k9 Z9 g9 H locs hF7 hw => ?_)
  have hkr : 0 ≤ k9 ∧ k9 ≤ 3 := by
    rcases hF7 with ⟨h, -⟩ | ⟨h, -⟩ <;> omega
  refine lv_istore (lv' := (5, .int (iI k9)) :: LVi b ad d oa i) E.1 E.2.1 dL_law_3247 hl (by decide) rfl (fun ls hl => ?_)
  refine lv_aload_n E.1 E.2.1 dL_law_3249 rfl (lv_at hl 3 rfl) ?_
  refine lz_rd (i := i) (j := 1) G hw (by omega) (lv_at hl 5 rfl) (lv_at hl 1 rfl) dL_law_3250 dL_law_3251 dL_law_3253 dL_law_3254 dL_law_3255 ?_
  refine lz_c8 (rest := []) G hw (vX8_writeSchedule l X d rr Z Y hS (xz xs (i + 1)) (i32_of _)).toE (cwV 1 E.2.2.2.2 gL_law_X8_writeSchedule rfl rfl rfl (by decide +kernel) ⟨Nat.le_of_ble_eq_true rfl, Nat.le_of_ble_eq_true rfl⟩) hl.1 rfl rfl (Nat.le_of_ble_eq_true rfl) dL_law_3256 ⟨by show 601024 - 10 * (n + 1) + 1 + 0 ≤ 601024; omega, by show 7293034 - 60 * (n + 1) + 6 + 0 ≤ 7293034; omega⟩ (fun b9 Y9 H locs hF8 hw => ?_)
  exact lz_tail G ⟨dL_law_3259, dL_law_3261, dL_law_3262, dL_law_3265, dL_law_3267, dL_law_3272⟩ ⟨dL_law_3274, dL_law_3277, dL_law_3278, dL_law_3279, dL_law_3280, dL_law_3282, dL_law_3283, dL_law_3284⟩ dL_law_3289 rfl hkr (J_writeSchedule hS  hF7 hF8) hw hl k (by omega) (by omega)
set_option maxHeartbeats 1000000 in
set_option maxRecDepth 100000 in
theorem st_reportByte (G : LF p l s m meth c b L xs X cJ kS) (hi : 0 ≤ i ∧ i + 6 ≤ L) (hn : n < 1000) (k : GO p l e s m below meth c b X cJ ad pa pb qa qb ra rb ha hb d rr oa i n 3317) : GO p l e s m below meth c b X cJ ad pa pb qa qb ra rb ha hb d rr oa i (n + 1) 3292 := by
  intro Z g Y H locs ls hS hw hl
  have E := G.1
  refine lv_aload_n E.1 E.2.1 dL_law_3292 rfl (lv_at hl 3 rfl) ?_
  refine lz_rd (i := i) (j := 1) G hw (by omega) (lv_at hl 4 rfl) (lv_at hl 0 rfl) dL_law_3293 dL_law_3294 dL_law_3296 dL_law_3297 dL_law_3298 ?_
  refine lz_c7 (rest := []) G hw (vX7_reportByte l X ad pa pb qa qb ra rb ha hb Z Y hS (xz xs (i + 1)) (i32_of _)).toE (cwV 1 E.2.2.2.2 gL_law_X7_reportByte rfl rfl rfl (by decide +kernel) ⟨Nat.le_of_ble_eq_true rfl, Nat.le_of_ble_eq_true rfl⟩) hl.1 rfl rfl (Nat.le_of_ble_eq_true rfl) dL_law_3299 ⟨by show 601024 - 10 * (n + 1) + 0 ≤ 601024; omega, by show 7293034 - 60 * (n + 1) + 0 ≤ 7293034; omega⟩ (fun z9 Z9 H locs hF7 hw => ?_)
  refine lv_aload_n E.1 E.2.1 dL_law_3302 rfl (lv_at hl 2 rfl) ?_
  refine lz_rd (i := i) (j := 1) G hw (by omega) (lv_at hl 4 rfl) (lv_at hl 0 rfl) dL_law_3303 dL_law_3304 dL_law_3306 dL_law_3307 dL_law_3308 ?_
  refine lz_c8 (rest := [.int (iI z9)]) G hw (vX8_reportByte l X d rr Z Y hS (xz xs (i + 1)) (i32_of _)).toE (cwV 1 E.2.2.2.2 gL_law_X8_reportByte rfl rfl rfl (by decide +kernel) ⟨Nat.le_of_ble_eq_true rfl, Nat.le_of_ble_eq_true rfl⟩) hl.1 rfl rfl (Nat.le_of_ble_eq_true rfl) dL_law_3309 ⟨by show 601024 - 10 * (n + 1) + 0 + 0 ≤ 601024; omega, by show 7293034 - 60 * (n + 1) + 0 + 0 ≤ 7293034; omega⟩ (fun b9 Y9 H locs hF8 hw => ?_)
  obtain ⟨hJ, hS9⟩ := J_reportByte hS  hF7 hF8
  refine lv_icmp_eq (tgt := 3317) E.1 E.2.1 dL_law_3312 rfl (fun _ => ?_) (fun q => absurd (by rw [hJ]) q)
  exact lz_on k hS9 hw hl (by omega) (by omega)
end LAW3
