section LAW3
variable {p : Program} {l : Launch} {e : Env} {s : State} {m : MethodId} {below : List Frame} {meth : Method} {c : Code} {n : Nat} {i : Int} {X : KX} {cJ : ClassId} {kS : Nat → Nat} {b L : Nat} {xs : Nat → Int32}
variable {ad pa pb qa qb ra rb : Nat → Nat} {ha hb : Nat → Nat → Nat} {d rr : Nat → Nat} {oa : Nat}
set_option maxRecDepth 20000 in
theorem lz_disp (G : LF p l s m meth c b L xs X cJ kS) (hi : 0 ≤ i ∧ i + 6 ≤ L) (hn : n < 1000) (k : GO p l e s m below meth c b X cJ ad pa pb qa qb ra rb ha hb d rr oa i n 3317) : ∀ j : Nat, j < 64 → ∃ (off : Int) (tgt : Nat), (#[272, 345, 401, 414, 427, 507, 563, 576, 672, 728, 796, 864, 944, 1000, 1013, 1026, 1039, 1083, 1096, 1109, 1122, 1135, 1198, 1254, 1310, 1366, 1422, 1478, 1534, 1590, 1646, 1702, 1758, 1814, 1870, 1883, 1908, 1933, 1958, 2026, 2094, 2162, 2230, 2286, 2342, 2398, 2466, 2534, 2630, 2698, 2785, 2853, 2866, 2879, 2892, 2905, 2918, 2931, 3015, 3099, 3140, 3183, 3196, 3252] : Array Int)[j]? = some off ∧ ((40 : Nat) : Int) + off = (tgt : Int) ∧ GO p l e s m below meth c b X cJ ad pa pb qa qb ra rb ha hb d rr oa i (n + 1) tgt
  | 0, _ => ⟨272, 312, rfl, rfl, st_append G hi hn k⟩
  | 1, _ => ⟨345, 385, rfl, rfl, st_truncateInput G hi hn k⟩
  | 2, _ => ⟨401, 441, rfl, rfl, st_inputLength G hi hn k⟩
  | 3, _ => ⟨414, 454, rfl, rfl, st_runScript G hi hn k⟩
  | 4, _ => ⟨427, 467, rfl, rfl, st_openLoan G hi hn k⟩
  | 5, _ => ⟨507, 547, rfl, rfl, st_pay G hi hn k⟩
  | 6, _ => ⟨563, 603, rfl, rfl, st_payAll G hi hn k⟩
  | 7, _ => ⟨576, 616, rfl, rfl, st_payExtra G hi hn k⟩
  | 8, _ => ⟨672, 712, rfl, rfl, st_skipMonth G hi hn k⟩
  | 9, _ => ⟨728, 768, rfl, rfl, st_changeRate G hi hn k⟩
  | 10, _ => ⟨796, 836, rfl, rfl, st_extendTerm G hi hn k⟩
  | 11, _ => ⟨864, 904, rfl, rfl, st_refinance G hi hn k⟩
  | 12, _ => ⟨944, 984, rfl, rfl, st_spendExtra G hi hn k⟩
  | 13, _ => ⟨1000, 1040, rfl, rfl, st_undo G hi hn k⟩
  | 14, _ => ⟨1013, 1053, rfl, rfl, st_undoCount G hi hn k⟩
  | 15, _ => ⟨1026, 1066, rfl, rfl, st_saveSnapshot G hi hn k⟩
  | 16, _ => ⟨1039, 1079, rfl, rfl, st_restoreSnapshot G hi hn k⟩
  | 17, _ => ⟨1083, 1123, rfl, rfl, st_scriptErrorKind G hi hn k⟩
  | 18, _ => ⟨1096, 1136, rfl, rfl, st_scriptErrorOffset G hi hn k⟩
  | 19, _ => ⟨1109, 1149, rfl, rfl, st_loanCount G hi hn k⟩
  | 20, _ => ⟨1122, 1162, rfl, rfl, st_openCount G hi hn k⟩
  | 21, _ => ⟨1135, 1175, rfl, rfl, st_isOpen G hi hn k⟩
  | 22, _ => ⟨1198, 1238, rfl, rfl, st_principal G hi hn k⟩
  | 23, _ => ⟨1254, 1294, rfl, rfl, st_balance G hi hn k⟩
  | 24, _ => ⟨1310, 1350, rfl, rfl, st_rate G hi hn k⟩
  | 25, _ => ⟨1366, 1406, rfl, rfl, st_monthsLeft G hi hn k⟩
  | 26, _ => ⟨1422, 1462, rfl, rfl, st_installment G hi hn k⟩
  | 27, _ => ⟨1478, 1518, rfl, rfl, st_carry G hi hn k⟩
  | 28, _ => ⟨1534, 1574, rfl, rfl, st_interestDue G hi hn k⟩
  | 29, _ => ⟨1590, 1630, rfl, rfl, st_amountDue G hi hn k⟩
  | 30, _ => ⟨1646, 1686, rfl, rfl, st_interestSoFar G hi hn k⟩
  | 31, _ => ⟨1702, 1742, rfl, rfl, st_paidSoFar G hi hn k⟩
  | 32, _ => ⟨1758, 1798, rfl, rfl, st_paidMonths G hi hn k⟩
  | 33, _ => ⟨1814, 1854, rfl, rfl, st_skippedMonths G hi hn k⟩
  | 34, _ => ⟨1870, 1910, rfl, rfl, st_entryCount G hi hn k⟩
  | 35, _ => ⟨1883, 1923, rfl, rfl, st_entryLoan G hi hn k⟩
  | 36, _ => ⟨1908, 1948, rfl, rfl, st_entryAmount G hi hn k⟩
  | 37, _ => ⟨1933, 1973, rfl, rfl, st_entryInterest G hi hn k⟩
  | 38, _ => ⟨1958, 1998, rfl, rfl, st_interestOfPayment G hi hn k⟩
  | 39, _ => ⟨2026, 2066, rfl, rfl, st_amountOfPayment G hi hn k⟩
  | 40, _ => ⟨2094, 2134, rfl, rfl, st_paymentsTo G hi hn k⟩
  | 41, _ => ⟨2162, 2202, rfl, rfl, st_balanceAfter G hi hn k⟩
  | 42, _ => ⟨2230, 2270, rfl, rfl, st_interestAhead G hi hn k⟩
  | 43, _ => ⟨2286, 2326, rfl, rfl, st_lastDue G hi hn k⟩
  | 44, _ => ⟨2342, 2382, rfl, rfl, st_monthsToHalf G hi hn k⟩
  | 45, _ => ⟨2398, 2438, rfl, rfl, st_installmentFor G hi hn k⟩
  | 46, _ => ⟨2466, 2506, rfl, rfl, st_monthsFor G hi hn k⟩
  | 47, _ => ⟨2534, 2574, rfl, rfl, st_savingOfExtra G hi hn k⟩
  | 48, _ => ⟨2630, 2670, rfl, rfl, st_interestIfRate G hi hn k⟩
  | 49, _ => ⟨2698, 2738, rfl, rfl, st_isCheaper G hi hn k⟩
  | 50, _ => ⟨2785, 2825, rfl, rfl, st_skipsWithin G hi hn k⟩
  | 51, _ => ⟨2853, 2893, rfl, rfl, st_totalInterestAhead G hi hn k⟩
  | 52, _ => ⟨2866, 2906, rfl, rfl, st_dearestLoan G hi hn k⟩
  | 53, _ => ⟨2879, 2919, rfl, rfl, st_smallestLoan G hi hn k⟩
  | 54, _ => ⟨2892, 2932, rfl, rfl, st_totalDue G hi hn k⟩
  | 55, _ => ⟨2905, 2945, rfl, rfl, st_totalBalance G hi hn k⟩
  | 56, _ => ⟨2918, 2958, rfl, rfl, st_monthsToFreedom G hi hn k⟩
  | 57, _ => ⟨2931, 2971, rfl, rfl, st_budgetMonths G hi hn k⟩
  | 58, _ => ⟨3015, 3055, rfl, rfl, st_budgetInterest G hi hn k⟩
  | 59, _ => ⟨3099, 3139, rfl, rfl, st_averageRate G hi hn k⟩
  | 60, _ => ⟨3140, 3180, rfl, rfl, st_closedShare G hi hn k⟩
  | 61, _ => ⟨3183, 3223, rfl, rfl, st_violations G hi hn k⟩
  | 62, _ => ⟨3196, 3236, rfl, rfl, st_writeSchedule G hi hn k⟩
  | 63, _ => ⟨3252, 3292, rfl, rfl, st_reportByte G hi hn k⟩
  | j + 64, h => absurd h (by omega)
theorem lz_and63 (x : Int) : iI x &&& iI 63 = iI (x % 64) := by
  apply Int32.toBitVec_inj.mp
  rw [Int32.toBitVec_and]
  apply BitVec.eq_of_toNat_eq
  rw [BitVec.toNat_and]
  show (BitVec.ofInt 32 x).toNat &&& 63 = (BitVec.ofInt 32 (x % 64)).toNat
  rw [BitVec.toNat_ofInt, BitVec.toNat_ofInt]
  show (x % 4294967296).toNat &&& (2 ^ 6 - 1) = (x % 64 % 4294967296).toNat
  rw [Nat.and_two_pow_sub_one_eq_mod]
  omega
theorem lz_len (L : Nat) : Int32.ofNat L = iI (L : Int) := by rw [lz_iN (a := (L : Int)) (by omega), Int.toNat_natCast]
set_option maxRecDepth 20000 in
theorem lz_loop (G : LF p l s m meth c b L xs X cJ kS) : ∀ (n : Nat) (i : Int), n < 1000 → 0 ≤ i → i ≤ 6000 → (L : Int) - 6 < i + 6 * n → GO p l e s m below meth c b X cJ ad pa pb qa qb ra rb ha hb d rr oa i n 23 := by
  intro n
  induction n with
  | zero =>
    intro i hn h0 hi6 hm Z g Y H locs ls hS hw hl
    have E := G.1
    have hL := G.2.2.2.2.2.2.2.2.2
    refine lv_iload E.1 E.2.1 dL_law_23 (lv_at hl 0 rfl) ?_
    refine lv_aload_n E.1 E.2.1 dL_law_25 rfl (lv_at hl 4 rfl) ?_
    refine va_slen E.1 E.2.1 G.2.2.2.2.2.2.1 G.2.2.2.2.2.2.2.1 (Nat.not_le.mpr G.2.2.2.2.2.2.2.1) hw.2.2.1 dL_law_26 ?_
    rw [lz_len]
    refine lv_bipush (v := iI 6) E.1 E.2.1 dL_law_27 rfl ?_
    refine lv_isub E.1 E.2.1 dL_law_29 ?_
    rw [iI_sub]
    refine lv_icmp_gt (tgt := 3323) E.1 E.2.1 dL_law_30 rfl (fun _ => ?_) (fun h => absurd ((iI_lt (by omega) (by omega)).mpr (by omega)) h)
    exact lz_end (i := i) G Z g Y H locs ls hS hw hl
  | succ n ih =>
    intro i hn h0 hi6 hm Z g Y H locs ls hS hw hl
    have E := G.1
    have hL := G.2.2.2.2.2.2.2.2.2
    refine lv_iload E.1 E.2.1 dL_law_23 (lv_at hl 0 rfl) ?_
    refine lv_aload_n E.1 E.2.1 dL_law_25 rfl (lv_at hl 4 rfl) ?_
    refine va_slen E.1 E.2.1 G.2.2.2.2.2.2.1 G.2.2.2.2.2.2.2.1 (Nat.not_le.mpr G.2.2.2.2.2.2.2.1) hw.2.2.1 dL_law_26 ?_
    rw [lz_len]
    refine lv_bipush (v := iI 6) E.1 E.2.1 dL_law_27 rfl ?_
    refine lv_isub E.1 E.2.1 dL_law_29 ?_
    rw [iI_sub]
    refine lv_icmp_gt (tgt := 3323) E.1 E.2.1 dL_law_30 rfl (fun _ => ?_) (fun h => ?_)
    · exact lz_end (i := i) G Z g Y H locs ls hS hw hl
    · have h6 : i + 6 ≤ (L : Int) := by
        have q : ¬ (L : Int) - 6 < i := fun q => h ((iI_lt (by omega) (by omega)).mpr q)
        omega
      refine lv_aload_n E.1 E.2.1 dL_law_33 rfl (lv_at hl 4 rfl) ?_
      refine lv_iload E.1 E.2.1 dL_law_34 (lv_at hl 0 rfl) ?_
      refine lz_ld G hw (by omega) dL_law_36 ?_
      refine lv_bipush (v := iI 63) E.1 E.2.1 dL_law_37 rfl ?_
      refine lv_iand E.1 E.2.1 dL_law_39 ?_
      rw [lz_and63]
      have hv : 0 ≤ xz xs i % 64 ∧ xz xs i % 64 < 64 := by omega
      obtain ⟨off, tgt, ho, ht, hg⟩ := lz_disp G ⟨h0, h6⟩ (by omega) (lz_inc G (ih (i + 6) (by omega) (by omega) (by omega) (by omega))) (xz xs i % 64).toNat (by omega)
      refine lv_tableIn (off := off) (tgt := tgt) E.1 E.2.1 dL_law_40 (by rw [iI_toInt (by omega)]; omega) (by rw [iI_toInt (by omega)]; omega) (by rw [iI_toInt (by omega), Int.sub_zero]; exact ho) ht ?_
      exact hg Z g Y H locs ls hS hw hl
end LAW3
