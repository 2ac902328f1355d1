section LAW3
variable {p : Program} {l : Launch} {e : Env} {s : State} {m : MethodId} {below : List Frame} {meth : Method} {c : Code} {n : Nat} {i : Int} {X : KX} {cJ : ClassId} {kS : Nat → Nat} {b L : Nat} {xs : Nat → Int32}
variable {ad pa pb qa qb ra rb : Nat → Nat} {ha hb : Nat → Nat → Nat} {d rr : Nat → Nat} {oa : Nat}
set_option maxHeartbeats 1000000 in
set_option maxRecDepth 100000 in
theorem st_interestIfRate (G : LF p l s m meth c b L xs X cJ kS) (hi : 0 ≤ i ∧ i + 6 ≤ L) (hn : n < 1000) (k : GO p l e s m below meth c b X cJ ad pa pb qa qb ra rb ha hb d rr oa i n 3317) : GO p l e s m below meth c b X cJ ad pa pb qa qb ra rb ha hb d rr oa i (n + 1) 2670 := by
  intro Z g Y H locs ls hS hw hl
  have E := G.1
  refine lv_aload_n E.1 E.2.1 dL_law_2670 rfl (lv_at hl 3 rfl) ?_
  refine lz_rd (i := i) (j := 1) G hw (by omega) (lv_at hl 4 rfl) (lv_at hl 0 rfl) dL_law_2671 dL_law_2672 dL_law_2674 dL_law_2675 dL_law_2676 ?_
  refine lz_rd (i := i) (j := 2) G hw (by omega) (lv_at hl 4 rfl) (lv_at hl 0 rfl) dL_law_2677 dL_law_2678 dL_law_2680 dL_law_2681 dL_law_2682 ?_
  refine lv_aload_n E.1 E.2.1 dL_law_2683 rfl (lv_at hl 1 rfl) ?_
  refine lz_cL (rest := []) G hw (kL_interestIfRate l X cJ kS G.2.2.2.2.2.2.2.2.1 ad pa pb qa qb ra rb ha hb Z Y hS (xz xs (i + 1)) (xz xs (i + 2)) (i32_of _) (i32_of _) oa g) (vx_cwSW 4 E.2.2.2.2 gL_law_L_interestIfRate rfl rfl rfl (by decide +kernel) ⟨Nat.le_of_ble_eq_true rfl, Nat.le_of_ble_eq_true rfl⟩) hl.1 rfl rfl (Nat.le_of_ble_eq_true rfl) dL_law_2684 ⟨by show 601024 - 10 * (n + 1) + 2 ≤ 601024; omega, by show 7293034 - 60 * (n + 1) + 12 ≤ 7293034; omega⟩ (fun k9 Z9 g9 H locs hF7 hw => ?_)
  have hkr : 0 ≤ k9 ∧ k9 ≤ 3 := by
    rcases hF7 with ⟨h, -⟩ | ⟨h, -⟩ | ⟨h, -⟩ <;> omega
  refine lv_istore (lv' := (5, .int (iI k9)) :: LVi b ad d oa i) E.1 E.2.1 dL_law_2687 hl (by decide) rfl (fun ls hl => ?_)
  refine lv_aload_n E.1 E.2.1 dL_law_2689 rfl (lv_at hl 3 rfl) ?_
  refine lz_rd (i := i) (j := 1) G hw (by omega) (lv_at hl 5 rfl) (lv_at hl 1 rfl) dL_law_2690 dL_law_2691 dL_law_2693 dL_law_2694 dL_law_2695 ?_
  refine lz_rd (i := i) (j := 2) G hw (by omega) (lv_at hl 5 rfl) (lv_at hl 1 rfl) dL_law_2696 dL_law_2697 dL_law_2699 dL_law_2700 dL_law_2701 ?_
  refine lz_c8 (rest := []) G hw (vX8_interestIfRate l X d rr Z Y hS (xz xs (i + 1)) (xz xs (i + 2)) (i32_of _) (i32_of _)).toE (cwV 2 E.2.2.2.2 gL_law_X8_interestIfRate rfl rfl rfl (by decide +kernel) ⟨Nat.le_of_ble_eq_true rfl, Nat.le_of_ble_eq_true rfl⟩) hl.1 rfl rfl (Nat.le_of_ble_eq_true rfl) dL_law_2702 ⟨by show 601024 - 10 * (n + 1) + 2 + 0 ≤ 601024; omega, by show 7293034 - 60 * (n + 1) + 12 + 0 ≤ 7293034; omega⟩ (fun b9 Y9 H locs hF8 hw => ?_)
  exact lz_tail G ⟨dL_law_2705, dL_law_2707, dL_law_2708, dL_law_2711, dL_law_2713, dL_law_2718⟩ ⟨dL_law_2720, dL_law_2723, dL_law_2724, dL_law_2725, dL_law_2726, dL_law_2728, dL_law_2729, dL_law_2730⟩ dL_law_2735 rfl hkr (J_interestIfRate hS  hF7 hF8) hw hl k (by omega) (by omega)
set_option maxHeartbeats 1000000 in
set_option maxRecDepth 100000 in
theorem st_isCheaper (G : LF p l s m meth c b L xs X cJ kS) (hi : 0 ≤ i ∧ i + 6 ≤ L) (hn : n < 1000) (k : GO p l e s m below meth c b X cJ ad pa pb qa qb ra rb ha hb d rr oa i n 3317) : GO p l e s m below meth c b X cJ ad pa pb qa qb ra rb ha hb d rr oa i (n + 1) 2738 := by
  intro Z g Y H locs ls hS hw hl
  have E := G.1
  refine lv_aload_n E.1 E.2.1 dL_law_2738 rfl (lv_at hl 3 rfl) ?_
  refine lz_rd (i := i) (j := 1) G hw (by omega) (lv_at hl 4 rfl) (lv_at hl 0 rfl) dL_law_2739 dL_law_2740 dL_law_2742 dL_law_2743 dL_law_2744 ?_
  refine lz_rd (i := i) (j := 2) G hw (by omega) (lv_at hl 4 rfl) (lv_at hl 0 rfl) dL_law_2745 dL_law_2746 dL_law_2748 dL_law_2749 dL_law_2750 ?_
  refine lz_rd (i := i) (j := 3) G hw (by omega) (lv_at hl 4 rfl) (lv_at hl 0 rfl) dL_law_2751 dL_law_2752 dL_law_2754 dL_law_2755 dL_law_2756 ?_
  refine lv_aload_n E.1 E.2.1 dL_law_2757 rfl (lv_at hl 1 rfl) ?_
  refine lz_cL (rest := []) G hw (kL_isCheaper l X cJ kS G.2.2.2.2.2.2.2.2.1 ad pa pb qa qb ra rb ha hb Z Y hS (xz xs (i + 1)) (xz xs (i + 2)) (xz xs (i + 3)) (i32_of _) (i32_of _) (i32_of _) oa g) (vx_cwSW 5 E.2.2.2.2 gL_law_L_isCheaper rfl rfl rfl (by decide +kernel) ⟨Nat.le_of_ble_eq_true rfl, Nat.le_of_ble_eq_true rfl⟩) hl.1 rfl rfl (Nat.le_of_ble_eq_true rfl) dL_law_2758 ⟨by show 601024 - 10 * (n + 1) + 3 ≤ 601024; omega, by show 7293034 - 60 * (n + 1) + 18 ≤ 7293034; omega⟩ (fun k9 Z9 g9 H locs hF7 hw => ?_)
  have hkr : 0 ≤ k9 ∧ k9 ≤ 3 := by
    rcases hF7 with ⟨h, -⟩ | ⟨h, -⟩ | ⟨h, -⟩ <;> omega
  refine lv_istore (lv' := (5, .int (iI k9)) :: LVi b ad d oa i) E.1 E.2.1 dL_law_2761 hl (by decide) rfl (fun ls hl => ?_)
  refine lv_aload_n E.1 E.2.1 dL_law_2763 rfl (lv_at hl 3 rfl) ?_
  refine lz_rd (i := i) (j := 1) G hw (by omega) (lv_at hl 5 rfl) (lv_at hl 1 rfl) dL_law_2764 dL_law_2765 dL_law_2767 dL_law_2768 dL_law_2769 ?_
  refine lz_rd (i := i) (j := 2) G hw (by omega) (lv_at hl 5 rfl) (lv_at hl 1 rfl) dL_law_2770 dL_law_2771 dL_law_2773 dL_law_2774 dL_law_2775 ?_
  refine lz_rd (i := i) (j := 3) G hw (by omega) (lv_at hl 5 rfl) (lv_at hl 1 rfl) dL_law_2776 dL_law_2777 dL_law_2779 dL_law_2780 dL_law_2781 ?_
  refine lz_c8 (rest := []) G hw (vX8_isCheaper l X d rr Z Y hS (xz xs (i + 1)) (xz xs (i + 2)) (xz xs (i + 3)) (i32_of _) (i32_of _) (i32_of _)).toE (cwV 3 E.2.2.2.2 gL_law_X8_isCheaper rfl rfl rfl (by decide +kernel) ⟨Nat.le_of_ble_eq_true rfl, Nat.le_of_ble_eq_true rfl⟩) hl.1 rfl rfl (Nat.le_of_ble_eq_true rfl) dL_law_2782 ⟨by show 601024 - 10 * (n + 1) + 3 + 0 ≤ 601024; omega, by show 7293034 - 60 * (n + 1) + 18 + 0 ≤ 7293034; omega⟩ (fun b9 Y9 H locs hF8 hw => ?_)
  exact lz_tailB G ⟨dL_law_2785, dL_law_2787, dL_law_2788, dL_law_2791, dL_law_2793, dL_law_2798⟩ ⟨dL_law_2800, dL_law_2803, dL_law_2804, dL_law_2805, dL_law_2806, dL_law_2808, dL_law_2811, dL_law_2812, dL_law_2815, dL_law_2816, dL_law_2817⟩ dL_law_2822 rfl hkr (J_isCheaper hS  hF7 hF8) hw hl k (by omega) (by omega)
set_option maxHeartbeats 1000000 in
set_option maxRecDepth 100000 in
theorem st_skipsWithin (G : LF p l s m meth c b L xs X cJ kS) (hi : 0 ≤ i ∧ i + 6 ≤ L) (hn : n < 1000) (k : GO p l e s m below meth c b X cJ ad pa pb qa qb ra rb ha hb d rr oa i n 3317) : GO p l e s m below meth c b X cJ ad pa pb qa qb ra rb ha hb d rr oa i (n + 1) 2825 := by
  intro Z g Y H locs ls hS hw hl
  have E := G.1
  refine lv_aload_n E.1 E.2.1 dL_law_2825 rfl (lv_at hl 3 rfl) ?_
  refine lz_rd (i := i) (j := 1) G hw (by omega) (lv_at hl 4 rfl) (lv_at hl 0 rfl) dL_law_2826 dL_law_2827 dL_law_2829 dL_law_2830 dL_law_2831 ?_
  refine lz_rd (i := i) (j := 2) G hw (by omega) (lv_at hl 4 rfl) (lv_at hl 0 rfl) dL_law_2832 dL_law_2833 dL_law_2835 dL_law_2836 dL_law_2837 ?_
  refine lv_aload_n E.1 E.2.1 dL_law_2838 rfl (lv_at hl 1 rfl) ?_
  refine lz_cL (rest := []) G hw (kL_skipsWithin l X cJ kS G.2.2.2.2.2.2.2.2.1 ad pa pb qa qb ra rb ha hb Z Y hS (xz xs (i + 1)) (xz xs (i + 2)) (i32_of _) (i32_of _) oa g) (vx_cwSW 4 E.2.2.2.2 gL_law_L_skipsWithin rfl rfl rfl (by decide +kernel) ⟨Nat.le_of_ble_eq_true rfl, Nat.le_of_ble_eq_true rfl⟩) hl.1 rfl rfl (Nat.le_of_ble_eq_true rfl) dL_law_2839 ⟨by show 601024 - 10 * (n + 1) + 2 ≤ 601024; omega, by show 7293034 - 60 * (n + 1) + 12 ≤ 7293034; omega⟩ (fun k9 Z9 g9 H locs hF7 hw => ?_)
  have hkr : 0 ≤ k9 ∧ k9 ≤ 3 := by
    rcases hF7 with ⟨h, -⟩ | ⟨h, -⟩ | ⟨h, -⟩ <;> omega
  refine lv_istore (lv' := (5, .int (iI k9)) :: LVi b ad d oa i) E.1 E.2.1 dL_law_2842 hl (by decide) rfl (fun ls hl => ?_)
  refine lv_aload_n E.1 E.2.1 dL_law_2844 rfl (lv_at hl 3 rfl) ?_
  refine lz_rd (i := i) (j := 1) G hw (by omega) (lv_at hl 5 rfl) (lv_at hl 1 rfl) dL_law_2845 dL_law_2846 dL_law_2848 dL_law_2849 dL_law_2850 ?_
  refine lz_rd (i := i) (j := 2) G hw (by omega) (lv_at hl 5 rfl) (lv_at hl 1 rfl) dL_law_2851 dL_law_2852 dL_law_2854 dL_law_2855 dL_law_2856 ?_
  refine lz_c8 (rest := []) G hw (vX8_skipsWithin l X d rr Z Y hS (xz xs (i + 1)) (xz xs (i + 2)) (i32_of _) (i32_of _)).toE (cwV 2 E.2.2.2.2 gL_law_X8_skipsWithin rfl rfl rfl (by decide +kernel) ⟨Nat.le_of_ble_eq_true rfl, Nat.le_of_ble_eq_true rfl⟩) hl.1 rfl rfl (Nat.le_of_ble_eq_true rfl) dL_law_2857 ⟨by show 601024 - 10 * (n + 1) + 2 + 0 ≤ 601024; omega, by show 7293034 - 60 * (n + 1) + 12 + 0 ≤ 7293034; omega⟩ (fun b9 Y9 H locs hF8 hw => ?_)
  exact lz_tail G ⟨dL_law_2860, dL_law_2862, dL_law_2863, dL_law_2866, dL_law_2868, dL_law_2873⟩ ⟨dL_law_2875, dL_law_2878, dL_law_2879, dL_law_2880, dL_law_2881, dL_law_2883, dL_law_2884, dL_law_2885⟩ dL_law_2890 rfl hkr (J_skipsWithin hS  hF7 hF8) hw hl k (by omega) (by omega)
set_option maxHeartbeats 1000000 in
set_option maxRecDepth 100000 in
theorem st_totalInterestAhead (G : LF p l s m meth c b L xs X cJ kS) (hi : 0 ≤ i ∧ i + 6 ≤ L) (hn : n < 1000) (k : GO p l e s m below meth c b X cJ ad pa pb qa qb ra rb ha hb d rr oa i n 3317) : GO p l e s m below meth c b X cJ ad pa pb qa qb ra rb ha hb d rr oa i (n + 1) 2893 := by
  intro Z g Y H locs ls hS hw hl
  have E := G.1
  refine lv_aload_n E.1 E.2.1 dL_law_2893 rfl (lv_at hl 3 rfl) ?_
  refine lz_c7 (rest := []) G hw (vX7_totalInterestAhead l X ad pa pb qa qb ra rb ha hb Z Y hS).toE (cwV 0 E.2.2.2.2 gL_law_X7_totalInterestAhead rfl rfl rfl (by decide +kernel) ⟨Nat.le_of_ble_eq_true rfl, Nat.le_of_ble_eq_true rfl⟩) hl.1 rfl rfl (Nat.le_of_ble_eq_true rfl) dL_law_2894 ⟨by show 601024 - 10 * (n + 1) + 0 ≤ 601024; omega, by show 7293034 - 60 * (n + 1) + 0 ≤ 7293034; omega⟩ (fun z9 Z9 H locs hF7 hw => ?_)
  refine lv_aload_n E.1 E.2.1 dL_law_2897 rfl (lv_at hl 2 rfl) ?_
  refine lz_c8 (rest := [.int (iI z9)]) G hw (vX8_totalInterestAhead l X d rr Z Y hS).toE (cwV 0 E.2.2.2.2 gL_law_X8_totalInterestAhead rfl rfl rfl (by decide +kernel) ⟨Nat.le_of_ble_eq_true rfl, Nat.le_of_ble_eq_true rfl⟩) hl.1 rfl rfl (Nat.le_of_ble_eq_true rfl) dL_law_2898 ⟨by show 601024 - 10 * (n + 1) + 0 + 0 ≤ 601024; omega, by show 7293034 - 60 * (n + 1) + 0 + 0 ≤ 7293034; omega⟩ (fun b9 Y9 H locs hF8 hw => ?_)
  obtain ⟨hJ, hS9⟩ := J_totalInterestAhead hS  hF7 hF8
  refine lv_icmp_eq (tgt := 3317) E.1 E.2.1 dL_law_2901 rfl (fun _ => ?_) (fun q => absurd (by rw [hJ]) q)
  exact lz_on k hS9 hw hl (by omega) (by omega)
set_option maxHeartbeats 1000000 in
set_option maxRecDepth 100000 in
theorem st_dearestLoan (G : LF p l s m meth c b L xs X cJ kS) (hi : 0 ≤ i ∧ i + 6 ≤ L) (hn : n < 1000) (k : GO p l e s m below meth c b X cJ ad pa pb qa qb ra rb ha hb d rr oa i n 3317) : GO p l e s m below meth c b X cJ ad pa pb qa qb ra rb ha hb d rr oa i (n + 1) 2906 := by
  intro Z g Y H locs ls hS hw hl
  have E := G.1
  refine lv_aload_n E.1 E.2.1 dL_law_2906 rfl (lv_at hl 3 rfl) ?_
  refine lz_c7 (rest := []) G hw (vX7_dearestLoan l X ad pa pb qa qb ra rb ha hb Z Y hS).toE (cwV 0 E.2.2.2.2 gL_law_X7_dearestLoan rfl rfl rfl (by decide +kernel) ⟨Nat.le_of_ble_eq_true rfl, Nat.le_of_ble_eq_true rfl⟩) hl.1 rfl rfl (Nat.le_of_ble_eq_true rfl) dL_law_2907 ⟨by show 601024 - 10 * (n + 1) + 0 ≤ 601024; omega, by show 7293034 - 60 * (n + 1) + 0 ≤ 7293034; omega⟩ (fun z9 Z9 H locs hF7 hw => ?_)
  refine lv_aload_n E.1 E.2.1 dL_law_2910 rfl (lv_at hl 2 rfl) ?_
  refine lz_c8 (rest := [.int (iI z9)]) G hw (vX8_dearestLoan l X d rr Z Y hS).toE (cwV 0 E.2.2.2.2 gL_law_X8_dearestLoan rfl rfl rfl (by decide +kernel) ⟨Nat.le_of_ble_eq_true rfl, Nat.le_of_ble_eq_true rfl⟩) hl.1 rfl rfl (Nat.le_of_ble_eq_true rfl) dL_law_2911 ⟨by show 601024 - 10 * (n + 1) + 0 + 0 ≤ 601024; omega, by show 7293034 - 60 * (n + 1) + 0 + 0 ≤ 7293034; omega⟩ (fun b9 Y9 H locs hF8 hw => ?_)
  obtain ⟨hJ, hS9⟩ := J_dearestLoan hS  hF7 hF8
  refine lv_icmp_eq (tgt := 3317) E.1 E.2.1 dL_law_2914 rfl (fun _ => ?_) (fun q => absurd (by rw [hJ]) q)
  exact lz_on k hS9 hw hl (by omega) (by omega)
set_option maxHeartbeats 1000000 in
set_option maxRecDepth 100000 in
theorem st_smallestLoan (G : LF p l s m meth c b L xs X cJ kS) (hi : 0 ≤ i ∧ i + 6 ≤ L) (hn : n < 1000) (k : GO p l e s m below meth c b X cJ ad pa pb qa qb ra rb ha hb d rr oa i n 3317) : GO p l e s m below meth c b X cJ ad pa pb qa qb ra rb ha hb d rr oa i (n + 1) 2919 := by
  intro Z g Y H locs ls hS hw hl
  have E := G.1
  refine lv_aload_n E.1 E.2.1 dL_law_2919 rfl (lv_at hl 3 rfl) ?_
  refine lz_c7 (rest := []) G hw (vX7_smallestLoan l X ad pa pb qa qb ra rb ha hb Z Y hS).toE (cwV 0 E.2.2.2.2 gL_law_X7_smallestLoan rfl rfl rfl (by decide +kernel) ⟨Nat.le_of_ble_eq_true rfl, Nat.le_of_ble_eq_true rfl⟩) hl.1 rfl rfl (Nat.le_of_ble_eq_true rfl) dL_law_2920 ⟨by show 601024 - 10 * (n + 1) + 0 ≤ 601024; omega, by show 7293034 - 60 * (n + 1) + 0 ≤ 7293034; omega⟩ (fun z9 Z9 H locs hF7 hw => ?_)
  refine lv_aload_n E.1 E.2.1 dL_law_2923 rfl (lv_at hl 2 rfl) ?_
  refine lz_c8 (rest := [.int (iI z9)]) G hw (vX8_smallestLoan l X d rr Z Y hS).toE (cwV 0 E.2.2.2.2 gL_law_X8_smallestLoan rfl rfl rfl (by decide +kernel) ⟨Nat.le_of_ble_eq_true rfl, Nat.le_of_ble_eq_true rfl⟩) hl.1 rfl rfl (Nat.le_of_ble_eq_true rfl) dL_law_2924 ⟨by show 601024 - 10 * (n + 1) + 0 + 0 ≤ 601024; omega, by show 7293034 - 60 * (n + 1) + 0 + 0 ≤ 7293034; omega⟩ (fun b9 Y9 H locs hF8 hw => ?_)
  obtain ⟨hJ, hS9⟩ := J_smallestLoan hS  hF7 hF8
  refine lv_icmp_eq (tgt := 3317) E.1 E.2.1 dL_law_2927 rfl (fun _ => ?_) (fun q => absurd (by rw [hJ]) q)
  exact lz_on k hS9 hw hl (by omega) (by omega)
set_option maxHeartbeats 1000000 in
set_option maxRecDepth 100000 in
theorem st_totalDue (G : LF p l s m meth c b L xs X cJ kS) (hi : 0 ≤ i ∧ i + 6 ≤ L) (hn : n < 1000) (k : GO p l e s m below meth c b X cJ ad pa pb qa qb ra rb ha hb d rr oa i n 3317) : GO p l e s m below meth c b X cJ ad pa pb qa qb ra rb ha hb d rr oa i (n + 1) 2932 := by
  intro Z g Y H locs ls hS hw hl
  have E := G.1
  refine lv_aload_n E.1 E.2.1 dL_law_2932 rfl (lv_at hl 3 rfl) ?_
  refine lz_c7 (rest := []) G hw (vX7_totalDue l X ad pa pb qa qb ra rb ha hb Z Y hS).toE (cwV 0 E.2.2.2.2 gL_law_X7_totalDue rfl rfl rfl (by decide +kernel) ⟨Nat.le_of_ble_eq_true rfl, Nat.le_of_ble_eq_true rfl⟩) hl.1 rfl rfl (Nat.le_of_ble_eq_true rfl) dL_law_2933 ⟨by show 601024 - 10 * (n + 1) + 0 ≤ 601024; omega, by show 7293034 - 60 * (n + 1) + 0 ≤ 7293034; omega⟩ (fun z9 Z9 H locs hF7 hw => ?_)
  refine lv_aload_n E.1 E.2.1 dL_law_2936 rfl (lv_at hl 2 rfl) ?_
  refine lz_c8 (rest := [.int (iI z9)]) G hw (vX8_totalDue l X d rr Z Y hS).toE (cwV 0 E.2.2.2.2 gL_law_X8_totalDue rfl rfl rfl (by decide +kernel) ⟨Nat.le_of_ble_eq_true rfl, Nat.le_of_ble_eq_true rfl⟩) hl.1 rfl rfl (Nat.le_of_ble_eq_true rfl) dL_law_2937 ⟨by show 601024 - 10 * (n + 1) + 0 + 0 ≤ 601024; omega, by show 7293034 - 60 * (n + 1) + 0 + 0 ≤ 7293034; omega⟩ (fun b9 Y9 H locs hF8 hw => ?_)
  obtain ⟨hJ, hS9⟩ := J_totalDue hS  hF7 hF8
  refine lv_icmp_eq (tgt := 3317) E.1 E.2.1 dL_law_2940 rfl (fun _ => ?_) (fun q => absurd (by rw [hJ]) q)
  exact lz_on k hS9 hw hl (by omega) (by omega)
set_option maxHeartbeats 1000000 in
set_option maxRecDepth 100000 in
theorem st_totalBalance (G : LF p l s m meth c b L xs X cJ kS) (hi : 0 ≤ i ∧ i + 6 ≤ L) (hn : n < 1000) (k : GO p l e s m below meth c b X cJ ad pa pb qa qb ra rb ha hb d rr oa i n 3317) : GO p l e s m below meth c b X cJ ad pa pb qa qb ra rb ha hb d rr oa i (n + 1) 2945 := by
  intro Z g Y H locs ls hS hw hl
  have E := G.1
  refine lv_aload_n E.1 E.2.1 dL_law_2945 rfl (lv_at hl 3 rfl) ?_
  refine lz_c7 (rest := []) G hw (vX7_totalBalance l X ad pa pb qa qb ra rb ha hb Z Y hS).toE (cwV 0 E.2.2.2.2 gL_law_X7_totalBalance rfl rfl rfl (by decide +kernel) ⟨Nat.le_of_ble_eq_true rfl, Nat.le_of_ble_eq_true rfl⟩) hl.1 rfl rfl (Nat.le_of_ble_eq_true rfl) dL_law_2946 ⟨by show 601024 - 10 * (n + 1) + 0 ≤ 601024; omega, by show 7293034 - 60 * (n + 1) + 0 ≤ 7293034; omega⟩ (fun z9 Z9 H locs hF7 hw => ?_)
  refine lv_aload_n E.1 E.2.1 dL_law_2949 rfl (lv_at hl 2 rfl) ?_
  refine lz_c8 (rest := [.int (iI z9)]) G hw (vX8_totalBalance l X d rr Z Y hS).toE (cwV 0 E.2.2.2.2 gL_law_X8_totalBalance rfl rfl rfl (by decide +kernel) ⟨Nat.le_of_ble_eq_true rfl, Nat.le_of_ble_eq_true rfl⟩) hl.1 rfl rfl (Nat.le_of_ble_eq_true rfl) dL_law_2950 ⟨by show 601024 - 10 * (n + 1) + 0 + 0 ≤ 601024; omega, by show 7293034 - 60 * (n + 1) + 0 + 0 ≤ 7293034; omega⟩ (fun b9 Y9 H locs hF8 hw => ?_)
  obtain ⟨hJ, hS9⟩ := J_totalBalance hS  hF7 hF8
  refine lv_icmp_eq (tgt := 3317) E.1 E.2.1 dL_law_2953 rfl (fun _ => ?_) (fun q => absurd (by rw [hJ]) q)
  exact lz_on k hS9 hw hl (by omega) (by omega)
end LAW3
