section LAW3
variable {p : Program} {l : Launch} {e : Env} {s : State} {m : MethodId} {below : List Frame} {meth : Method} {c : Code} {n : Nat} {i : Int} {X : KX} {cJ : ClassId} {kS : Nat → Nat} {b L : Nat} {xs : Nat → Int32}
variable {ad pa pb qa qb ra rb : Nat → Nat} {ha hb : Nat → Nat → Nat} {d rr : Nat → Nat} {oa : Nat}
set_option maxHeartbeats 1000000 in
set_option maxRecDepth 100000 in
theorem st_paidMonths (G : LF p l s m meth c b L xs X cJ kS) (hi : 0 ≤ i ∧ i + 6 ≤ L) (hn : n < 1000) (k : GO p l e s m below meth c b X cJ ad pa pb qa qb ra rb ha hb d rr oa i n 3317) : GO p l e s m below meth c b X cJ ad pa pb qa qb ra rb ha hb d rr oa i (n + 1) 1798 := by
  intro Z g Y H locs ls hS hw hl
  have E := G.1
  refine lv_aload_n E.1 E.2.1 dL_law_1798 rfl (lv_at hl 3 rfl) ?_
  refine lz_rd (i := i) (j := 1) G hw (by omega) (lv_at hl 4 rfl) (lv_at hl 0 rfl) dL_law_1799 dL_law_1800 dL_law_1802 dL_law_1803 dL_law_1804 ?_
  refine lv_aload_n E.1 E.2.1 dL_law_1805 rfl (lv_at hl 1 rfl) ?_
  refine lz_cL (rest := []) G hw (kL_paidMonths l X cJ kS G.2.2.2.2.2.2.2.2.1 ad pa pb qa qb ra rb ha hb Z Y hS (xz xs (i + 1)) (i32_of _) oa g) (vx_cwSW 3 E.2.2.2.2 gL_law_L_paidMonths rfl rfl rfl (by decide +kernel) ⟨Nat.le_of_ble_eq_true rfl, Nat.le_of_ble_eq_true rfl⟩) hl.1 rfl rfl (Nat.le_of_ble_eq_true rfl) dL_law_1806 ⟨by show 601024 - 10 * (n + 1) + 1 ≤ 601024; omega, by show 7293034 - 60 * (n + 1) + 6 ≤ 7293034; omega⟩ (fun k9 Z9 g9 H locs hF7 hw => ?_)
  have hkr : 0 ≤ k9 ∧ k9 ≤ 3 := by
    rcases hF7 with ⟨h, -⟩ | ⟨h, -⟩ <;> omega
  refine lv_istore (lv' := (5, .int (iI k9)) :: LVi b ad d oa i) E.1 E.2.1 dL_law_1809 hl (by decide) rfl (fun ls hl => ?_)
  refine lv_aload_n E.1 E.2.1 dL_law_1811 rfl (lv_at hl 3 rfl) ?_
  refine lz_rd (i := i) (j := 1) G hw (by omega) (lv_at hl 5 rfl) (lv_at hl 1 rfl) dL_law_1812 dL_law_1813 dL_law_1815 dL_law_1816 dL_law_1817 ?_
  refine lz_c8 (rest := []) G hw (vX8_paidMonths l X d rr Z Y hS (xz xs (i + 1)) (i32_of _)).toE (cwV 1 E.2.2.2.2 gL_law_X8_paidMonths rfl rfl rfl (by decide +kernel) ⟨Nat.le_of_ble_eq_true rfl, Nat.le_of_ble_eq_true rfl⟩) hl.1 rfl rfl (Nat.le_of_ble_eq_true rfl) dL_law_1818 ⟨by show 601024 - 10 * (n + 1) + 1 + 0 ≤ 601024; omega, by show 7293034 - 60 * (n + 1) + 6 + 0 ≤ 7293034; omega⟩ (fun b9 Y9 H locs hF8 hw => ?_)
  exact lz_tail G ⟨dL_law_1821, dL_law_1823, dL_law_1824, dL_law_1827, dL_law_1829, dL_law_1834⟩ ⟨dL_law_1836, dL_law_1839, dL_law_1840, dL_law_1841, dL_law_1842, dL_law_1844, dL_law_1845, dL_law_1846⟩ dL_law_1851 rfl hkr (J_paidMonths hS  hF7 hF8) hw hl k (by omega) (by omega)
set_option maxHeartbeats 1000000 in
set_option maxRecDepth 100000 in
theorem st_skippedMonths (G : LF p l s m meth c b L xs X cJ kS) (hi : 0 ≤ i ∧ i + 6 ≤ L) (hn : n < 1000) (k : GO p l e s m below meth c b X cJ ad pa pb qa qb ra rb ha hb d rr oa i n 3317) : GO p l e s m below meth c b X cJ ad pa pb qa qb ra rb ha hb d rr oa i (n + 1) 1854 := by
  intro Z g Y H locs ls hS hw hl
  have E := G.1
  refine lv_aload_n E.1 E.2.1 dL_law_1854 rfl (lv_at hl 3 rfl) ?_
  refine lz_rd (i := i) (j := 1) G hw (by omega) (lv_at hl 4 rfl) (lv_at hl 0 rfl) dL_law_1855 dL_law_1856 dL_law_1858 dL_law_1859 dL_law_1860 ?_
  refine lv_aload_n E.1 E.2.1 dL_law_1861 rfl (lv_at hl 1 rfl) ?_
  refine lz_cL (rest := []) G hw (kL_skippedMonths l X cJ kS G.2.2.2.2.2.2.2.2.1 ad pa pb qa qb ra rb ha hb Z Y hS (xz xs (i + 1)) (i32_of _) oa g) (vx_cwSW 3 E.2.2.2.2 gL_law_L_skippedMonths rfl rfl rfl (by decide +kernel) ⟨Nat.le_of_ble_eq_true rfl, Nat.le_of_ble_eq_true rfl⟩) hl.1 rfl rfl (Nat.le_of_ble_eq_true rfl) dL_law_1862 ⟨by show 601024 - 10 * (n + 1) + 1 ≤ 601024; omega, by show 7293034 - 60 * (n + 1) + 6 ≤ 7293034; omega⟩ (fun k9 Z9 g9 H locs hF7 hw => ?_)
  have hkr : 0 ≤ k9 ∧ k9 ≤ 3 := by
    rcases hF7 with ⟨h, -⟩ | ⟨h, -⟩ <;> omega
  refine lv_istore (lv' := (5, .int (iI k9)) :: LVi b ad d oa i) E.1 E.2.1 dL_law_1865 hl (by decide) rfl (fun ls hl => ?_)
  refine lv_aload_n E.1 E.2.1 dL_law_1867 rfl (lv_at hl 3 rfl) ?_
  refine lz_rd (i := i) (j := 1) G hw (by omega) (lv_at hl 5 rfl) (lv_at hl 1 rfl) dL_law_1868 dL_law_1869 dL_law_1871 dL_law_1872 dL_law_1873 ?_
  refine lz_c8 (rest := []) G hw (vX8_skippedMonths l X d rr Z Y hS (xz xs (i + 1)) (i32_of _)).toE (cwV 1 E.2.2.2.2 gL_law_X8_skippedMonths rfl rfl rfl (by decide +kernel) ⟨Nat.le_of_ble_eq_true rfl, Nat.le_of_ble_eq_true rfl⟩) hl.1 rfl rfl (Nat.le_of_ble_eq_true rfl) dL_law_1874 ⟨by show 601024 - 10 * (n + 1) + 1 + 0 ≤ 601024; omega, by show 7293034 - 60 * (n + 1) + 6 + 0 ≤ 7293034; omega⟩ (fun b9 Y9 H locs hF8 hw => ?_)
  exact lz_tail G ⟨dL_law_1877, dL_law_1879, dL_law_1880, dL_law_1883, dL_law_1885, dL_law_1890⟩ ⟨dL_law_1892, dL_law_1895, dL_law_1896, dL_law_1897, dL_law_1898, dL_law_1900, dL_law_1901, dL_law_1902⟩ dL_law_1907 rfl hkr (J_skippedMonths hS  hF7 hF8) hw hl k (by omega) (by omega)
set_option maxHeartbeats 1000000 in
set_option maxRecDepth 100000 in
theorem st_entryCount (G : LF p l s m meth c b L xs X cJ kS) (hi : 0 ≤ i ∧ i + 6 ≤ L) (hn : n < 1000) (k : GO p l e s m below meth c b X cJ ad pa pb qa qb ra rb ha hb d rr oa i n 3317) : GO p l e s m below meth c b X cJ ad pa pb qa qb ra rb ha hb d rr oa i (n + 1) 1910 := by
  intro Z g Y H locs ls hS hw hl
  have E := G.1
  refine lv_aload_n E.1 E.2.1 dL_law_1910 rfl (lv_at hl 3 rfl) ?_
  refine lz_c7 (rest := []) G hw (vX7_entryCount l X ad pa pb qa qb ra rb ha hb Z Y hS).toE (cwV 0 E.2.2.2.2 gL_law_X7_entryCount rfl rfl rfl (by decide +kernel) ⟨Nat.le_of_ble_eq_true rfl, Nat.le_of_ble_eq_true rfl⟩) hl.1 rfl rfl (Nat.le_of_ble_eq_true rfl) dL_law_1911 ⟨by show 601024 - 10 * (n + 1) + 0 ≤ 601024; omega, by show 7293034 - 60 * (n + 1) + 0 ≤ 7293034; omega⟩ (fun z9 Z9 H locs hF7 hw => ?_)
  refine lv_aload_n E.1 E.2.1 dL_law_1914 rfl (lv_at hl 2 rfl) ?_
  refine lz_c8 (rest := [.int (iI z9)]) G hw (vX8_entryCount l X d rr Z Y hS).toE (cwV 0 E.2.2.2.2 gL_law_X8_entryCount rfl rfl rfl (by decide +kernel) ⟨Nat.le_of_ble_eq_true rfl, Nat.le_of_ble_eq_true rfl⟩) hl.1 rfl rfl (Nat.le_of_ble_eq_true rfl) dL_law_1915 ⟨by show 601024 - 10 * (n + 1) + 0 + 0 ≤ 601024; omega, by show 7293034 - 60 * (n + 1) + 0 + 0 ≤ 7293034; omega⟩ (fun b9 Y9 H locs hF8 hw => ?_)
  obtain ⟨hJ, hS9⟩ := J_entryCount hS  hF7 hF8
  refine lv_icmp_eq (tgt := 3317) E.1 E.2.1 dL_law_1918 rfl (fun _ => ?_) (fun q => absurd (by rw [hJ]) q)
  exact lz_on k hS9 hw hl (by omega) (by omega)
set_option maxHeartbeats 1000000 in
set_option maxRecDepth 100000 in
theorem st_entryLoan (G : LF p l s m meth c b L xs X cJ kS) (hi : 0 ≤ i ∧ i + 6 ≤ L) (hn : n < 1000) (k : GO p l e s m below meth c b X cJ ad pa pb qa qb ra rb ha hb d rr oa i n 3317) : GO p l e s m below meth c b X cJ ad pa pb qa qb ra rb ha hb d rr oa i (n + 1) 1923 := by
  intro Z g Y H locs ls hS hw hl
  have E := G.1
  refine lv_aload_n E.1 E.2.1 dL_law_1923 rfl (lv_at hl 3 rfl) ?_
  refine lz_rd (i := i) (j := 1) G hw (by omega) (lv_at hl 4 rfl) (lv_at hl 0 rfl) dL_law_1924 dL_law_1925 dL_law_1927 dL_law_1928 dL_law_1929 ?_
  refine lz_c7 (rest := []) G hw (vX7_entryLoan l X ad pa pb qa qb ra rb ha hb Z Y hS (xz xs (i + 1)) (i32_of _)).toE (cwV 1 E.2.2.2.2 gL_law_X7_entryLoan rfl rfl rfl (by decide +kernel) ⟨Nat.le_of_ble_eq_true rfl, Nat.le_of_ble_eq_true rfl⟩) hl.1 rfl rfl (Nat.le_of_ble_eq_true rfl) dL_law_1930 ⟨by show 601024 - 10 * (n + 1) + 0 ≤ 601024; omega, by show 7293034 - 60 * (n + 1) + 0 ≤ 7293034; omega⟩ (fun z9 Z9 H locs hF7 hw => ?_)
  refine lv_aload_n E.1 E.2.1 dL_law_1933 rfl (lv_at hl 2 rfl) ?_
  refine lz_rd (i := i) (j := 1) G hw (by omega) (lv_at hl 4 rfl) (lv_at hl 0 rfl) dL_law_1934 dL_law_1935 dL_law_1937 dL_law_1938 dL_law_1939 ?_
  refine lz_c8 (rest := [.int (iI z9)]) G hw (vX8_entryLoan l X d rr Z Y hS (xz xs (i + 1)) (i32_of _)).toE (cwV 1 E.2.2.2.2 gL_law_X8_entryLoan rfl rfl rfl (by decide +kernel) ⟨Nat.le_of_ble_eq_true rfl, Nat.le_of_ble_eq_true rfl⟩) hl.1 rfl rfl (Nat.le_of_ble_eq_true rfl) dL_law_1940 ⟨by show 601024 - 10 * (n + 1) + 0 + 0 ≤ 601024; omega, by show 7293034 - 60 * (n + 1) + 0 + 0 ≤ 7293034; omega⟩ (fun b9 Y9 H locs hF8 hw => ?_)
  obtain ⟨hJ, hS9⟩ := J_entryLoan hS  hF7 hF8
  refine lv_icmp_eq (tgt := 3317) E.1 E.2.1 dL_law_1943 rfl (fun _ => ?_) (fun q => absurd (by rw [hJ]) q)
  exact lz_on k hS9 hw hl (by omega) (by omega)
set_option maxHeartbeats 1000000 in
set_option maxRecDepth 100000 in
theorem st_entryAmount (G : LF p l s m meth c b L xs X cJ kS) (hi : 0 ≤ i ∧ i + 6 ≤ L) (hn : n < 1000) (k : GO p l e s m below meth c b X cJ ad pa pb qa qb ra rb ha hb d rr oa i n 3317) : GO p l e s m below meth c b X cJ ad pa pb qa qb ra rb ha hb d rr oa i (n + 1) 1948 := by
  intro Z g Y H locs ls hS hw hl
  have E := G.1
  refine lv_aload_n E.1 E.2.1 dL_law_1948 rfl (lv_at hl 3 rfl) ?_
  refine lz_rd (i := i) (j := 1) G hw (by omega) (lv_at hl 4 rfl) (lv_at hl 0 rfl) dL_law_1949 dL_law_1950 dL_law_1952 dL_law_1953 dL_law_1954 ?_
  refine lz_c7 (rest := []) G hw (vX7_entryAmount l X ad pa pb qa qb ra rb ha hb Z Y hS (xz xs (i + 1)) (i32_of _)).toE (cwV 1 E.2.2.2.2 gL_law_X7_entryAmount rfl rfl rfl (by decide +kernel) ⟨Nat.le_of_ble_eq_true rfl, Nat.le_of_ble_eq_true rfl⟩) hl.1 rfl rfl (Nat.le_of_ble_eq_true rfl) dL_law_1955 ⟨by show 601024 - 10 * (n + 1) + 0 ≤ 601024; omega, by show 7293034 - 60 * (n + 1) + 0 ≤ 7293034; omega⟩ (fun z9 Z9 H locs hF7 hw => ?_)
  refine lv_aload_n E.1 E.2.1 dL_law_1958 rfl (lv_at hl 2 rfl) ?_
  refine lz_rd (i := i) (j := 1) G hw (by omega) (lv_at hl 4 rfl) (lv_at hl 0 rfl) dL_law_1959 dL_law_1960 dL_law_1962 dL_law_1963 dL_law_1964 ?_
  refine lz_c8 (rest := [.int (iI z9)]) G hw (vX8_entryAmount l X d rr Z Y hS (xz xs (i + 1)) (i32_of _)).toE (cwV 1 E.2.2.2.2 gL_law_X8_entryAmount rfl rfl rfl (by decide +kernel) ⟨Nat.le_of_ble_eq_true rfl, Nat.le_of_ble_eq_true rfl⟩) hl.1 rfl rfl (Nat.le_of_ble_eq_true rfl) dL_law_1965 ⟨by show 601024 - 10 * (n + 1) + 0 + 0 ≤ 601024; omega, by show 7293034 - 60 * (n + 1) + 0 + 0 ≤ 7293034; omega⟩ (fun b9 Y9 H locs hF8 hw => ?_)
  obtain ⟨hJ, hS9⟩ := J_entryAmount hS  hF7 hF8
  refine lv_icmp_eq (tgt := 3317) E.1 E.2.1 dL_law_1968 rfl (fun _ => ?_) (fun q => absurd (by rw [hJ]) q)
  exact lz_on k hS9 hw hl (by omega) (by omega)
set_option maxHeartbeats 1000000 in
set_option maxRecDepth 100000 in
theorem st_entryInterest (G : LF p l s m meth c b L xs X cJ kS) (hi : 0 ≤ i ∧ i + 6 ≤ L) (hn : n < 1000) (k : GO p l e s m below meth c b X cJ ad pa pb qa qb ra rb ha hb d rr oa i n 3317) : GO p l e s m below meth c b X cJ ad pa pb qa qb ra rb ha hb d rr oa i (n + 1) 1973 := by
  intro Z g Y H locs ls hS hw hl
  have E := G.1
  refine lv_aload_n E.1 E.2.1 dL_law_1973 rfl (lv_at hl 3 rfl) ?_
  refine lz_rd (i := i) (j := 1) G hw (by omega) (lv_at hl 4 rfl) (lv_at hl 0 rfl) dL_law_1974 dL_law_1975 dL_law_1977 dL_law_1978 dL_law_1979 ?_
  refine lz_c7 (rest := []) G hw (vX7_entryInterest l X ad pa pb qa qb ra rb ha hb Z Y hS (xz xs (i + 1)) (i32_of _)).toE (cwV 1 E.2.2.2.2 gL_law_X7_entryInterest rfl rfl rfl (by decide +kernel) ⟨Nat.le_of_ble_eq_true rfl, Nat.le_of_ble_eq_true rfl⟩) hl.1 rfl rfl (Nat.le_of_ble_eq_true rfl) dL_law_1980 ⟨by show 601024 - 10 * (n + 1) + 0 ≤ 601024; omega, by show 7293034 - 60 * (n + 1) + 0 ≤ 7293034; omega⟩ (fun z9 Z9 H locs hF7 hw => ?_)
  refine lv_aload_n E.1 E.2.1 dL_law_1983 rfl (lv_at hl 2 rfl) ?_
  refine lz_rd (i := i) (j := 1) G hw (by omega) (lv_at hl 4 rfl) (lv_at hl 0 rfl) dL_law_1984 dL_law_1985 dL_law_1987 dL_law_1988 dL_law_1989 ?_
  refine lz_c8 (rest := [.int (iI z9)]) G hw (vX8_entryInterest l X d rr Z Y hS (xz xs (i + 1)) (i32_of _)).toE (cwV 1 E.2.2.2.2 gL_law_X8_entryInterest rfl rfl rfl (by decide +kernel) ⟨Nat.le_of_ble_eq_true rfl, Nat.le_of_ble_eq_true rfl⟩) hl.1 rfl rfl (Nat.le_of_ble_eq_true rfl) dL_law_1990 ⟨by show 601024 - 10 * (n + 1) + 0 + 0 ≤ 601024; omega, by show 7293034 - 60 * (n + 1) + 0 + 0 ≤ 7293034; omega⟩ (fun b9 Y9 H locs hF8 hw => ?_)
  obtain ⟨hJ, hS9⟩ := J_entryInterest hS  hF7 hF8
  refine lv_icmp_eq (tgt := 3317) E.1 E.2.1 dL_law_1993 rfl (fun _ => ?_) (fun q => absurd (by rw [hJ]) q)
  exact lz_on k hS9 hw hl (by omega) (by omega)
set_option maxHeartbeats 1000000 in
set_option maxRecDepth 100000 in
theorem st_interestOfPayment (G : LF p l s m meth c b L xs X cJ kS) (hi : 0 ≤ i ∧ i + 6 ≤ L) (hn : n < 1000) (k : GO p l e s m below meth c b X cJ ad pa pb qa qb ra rb ha hb d rr oa i n 3317) : GO p l e s m below meth c b X cJ ad pa pb qa qb ra rb ha hb d rr oa i (n + 1) 1998 := by
  intro Z g Y H locs ls hS hw hl
  have E := G.1
  refine lv_aload_n E.1 E.2.1 dL_law_1998 rfl (lv_at hl 3 rfl) ?_
  refine lz_rd (i := i) (j := 1) G hw (by omega) (lv_at hl 4 rfl) (lv_at hl 0 rfl) dL_law_1999 dL_law_2000 dL_law_2002 dL_law_2003 dL_law_2004 ?_
  refine lz_rd (i := i) (j := 2) G hw (by omega) (lv_at hl 4 rfl) (lv_at hl 0 rfl) dL_law_2005 dL_law_2006 dL_law_2008 dL_law_2009 dL_law_2010 ?_
  refine lv_aload_n E.1 E.2.1 dL_law_2011 rfl (lv_at hl 1 rfl) ?_
  refine lz_cL (rest := []) G hw (kL_interestOfPayment l X cJ kS G.2.2.2.2.2.2.2.2.1 ad pa pb qa qb ra rb ha hb Z Y hS (xz xs (i + 1)) (xz xs (i + 2)) (i32_of _) (i32_of _) oa g) (vx_cwSW 4 E.2.2.2.2 gL_law_L_interestOfPayment rfl rfl rfl (by decide +kernel) ⟨Nat.le_of_ble_eq_true rfl, Nat.le_of_ble_eq_true rfl⟩) hl.1 rfl rfl (Nat.le_of_ble_eq_true rfl) dL_law_2012 ⟨by show 601024 - 10 * (n + 1) + 2 ≤ 601024; omega, by show 7293034 - 60 * (n + 1) + 12 ≤ 7293034; omega⟩ (fun k9 Z9 g9 H locs hF7 hw => ?_)
  have hkr : 0 ≤ k9 ∧ k9 ≤ 3 := by
    rcases hF7 with ⟨h, -⟩ | ⟨h, -⟩ | ⟨h, -⟩ <;> omega
  refine lv_istore (lv' := (5, .int (iI k9)) :: LVi b ad d oa i) E.1 E.2.1 dL_law_2015 hl (by decide) rfl (fun ls hl => ?_)
  refine lv_aload_n E.1 E.2.1 dL_law_2017 rfl (lv_at hl 3 rfl) ?_
  refine lz_rd (i := i) (j := 1) G hw (by omega) (lv_at hl 5 rfl) (lv_at hl 1 rfl) dL_law_2018 dL_law_2019 dL_law_2021 dL_law_2022 dL_law_2023 ?_
  refine lz_rd (i := i) (j := 2) G hw (by omega) (lv_at hl 5 rfl) (lv_at hl 1 rfl) dL_law_2024 dL_law_2025 dL_law_2027 dL_law_2028 dL_law_2029 ?_
  refine lz_c8 (rest := []) G hw (vX8_interestOfPayment l X d rr Z Y hS (xz xs (i + 1)) (xz xs (i + 2)) (i32_of _) (i32_of _)).toE (cwV 2 E.2.2.2.2 gL_law_X8_interestOfPayment rfl rfl rfl (by decide +kernel) ⟨Nat.le_of_ble_eq_true rfl, Nat.le_of_ble_eq_true rfl⟩) hl.1 rfl rfl (Nat.le_of_ble_eq_true rfl) dL_law_2030 ⟨by show 601024 - 10 * (n + 1) + 2 + 0 ≤ 601024; omega, by show 7293034 - 60 * (n + 1) + 12 + 0 ≤ 7293034; omega⟩ (fun b9 Y9 H locs hF8 hw => ?_)
  exact lz_tail G ⟨dL_law_2033, dL_law_2035, dL_law_2036, dL_law_2039, dL_law_2041, dL_law_2046⟩ ⟨dL_law_2048, dL_law_2051, dL_law_2052, dL_law_2053, dL_law_2054, dL_law_2056, dL_law_2057, dL_law_2058⟩ dL_law_2063 rfl hkr (J_interestOfPayment hS  hF7 hF8) hw hl k (by omega) (by omega)
set_option maxHeartbeats 1000000 in
set_option maxRecDepth 100000 in
theorem st_amountOfPayment (G : LF p l s m meth c b L xs X cJ kS) (hi : 0 ≤ i ∧ i + 6 ≤ L) (hn : n < 1000) (k : GO p l e s m below meth c b X cJ ad pa pb qa qb ra rb ha hb d rr oa i n 3317) : GO p l e s m below meth c b X cJ ad pa pb qa qb ra rb ha hb d rr oa i (n + 1) 2066 := by
  intro Z g Y H locs ls hS hw hl
  have E := G.1
  refine lv_aload_n E.1 E.2.1 dL_law_2066 rfl (lv_at hl 3 rfl) ?_
  refine lz_rd (i := i) (j := 1) G hw (by omega) (lv_at hl 4 rfl) (lv_at hl 0 rfl) dL_law_2067 dL_law_2068 dL_law_2070 dL_law_2071 dL_law_2072 ?_
  refine lz_rd (i := i) (j := 2) G hw (by omega) (lv_at hl 4 rfl) (lv_at hl 0 rfl) dL_law_2073 dL_law_2074 dL_law_2076 dL_law_2077 dL_law_2078 ?_
  refine lv_aload_n E.1 E.2.1 dL_law_2079 rfl (lv_at hl 1 rfl) ?_
  refine lz_cL (rest := []) G hw (kL_amountOfPayment l X cJ kS G.2.2.2.2.2.2.2.2.1 ad pa pb qa qb ra rb ha hb Z Y hS (xz xs (i + 1)) (xz xs (i + 2)) (i32_of _) (i32_of _) oa g) (vx_cwSW 4 E.2.2.2.2 gL_law_L_amountOfPayment rfl rfl rfl (by decide +kernel) ⟨Nat.le_of_ble_eq_true rfl, Nat.le_of_ble_eq_true rfl⟩) hl.1 rfl rfl (Nat.le_of_ble_eq_true rfl) dL_law_2080 ⟨by show 601024 - 10 * (n + 1) + 2 ≤ 601024; omega, by show 7293034 - 60 * (n + 1) + 12 ≤ 7293034; omega⟩ (fun k9 Z9 g9 H locs hF7 hw => ?_)
  have hkr : 0 ≤ k9 ∧ k9 ≤ 3 := by
    rcases hF7 with ⟨h, -⟩ | ⟨h, -⟩ | ⟨h, -⟩ <;> omega
  refine lv_istore (lv' := (5, .int (iI k9)) :: LVi b ad d oa i) E.1 E.2.1 dL_law_2083 hl (by decide) rfl (fun ls hl => ?_)
  refine lv_aload_n E.1 E.2.1 dL_law_2085 rfl (lv_at hl 3 rfl) ?_
  refine lz_rd (i := i) (j := 1) G hw (by omega) (lv_at hl 5 rfl) (lv_at hl 1 rfl) dL_law_2086 dL_law_2087 dL_law_2089 dL_law_2090 dL_law_2091 ?_
  refine lz_rd (i := i) (j := 2) G hw (by omega) (lv_at hl 5 rfl) (lv_at hl 1 rfl) dL_law_2092 dL_law_2093 dL_law_2095 dL_law_2096 dL_law_2097 ?_
  refine lz_c8 (rest := []) G hw (vX8_amountOfPayment l X d rr Z Y hS (xz xs (i + 1)) (xz xs (i + 2)) (i32_of _) (i32_of _)).toE (cwV 2 E.2.2.2.2 gL_law_X8_amountOfPayment rfl rfl rfl (by decide +kernel) ⟨Nat.le_of_ble_eq_true rfl, Nat.le_of_ble_eq_true rfl⟩) hl.1 rfl rfl (Nat.le_of_ble_eq_true rfl) dL_law_2098 ⟨by show 601024 - 10 * (n + 1) + 2 + 0 ≤ 601024; omega, by show 7293034 - 60 * (n + 1) + 12 + 0 ≤ 7293034; omega⟩ (fun b9 Y9 H locs hF8 hw => ?_)
  exact lz_tail G ⟨dL_law_2101, dL_law_2103, dL_law_2104, dL_law_2107, dL_law_2109, dL_law_2114⟩ ⟨dL_law_2116, dL_law_2119, dL_law_2120, dL_law_2121, dL_law_2122, dL_law_2124, dL_law_2125, dL_law_2126⟩ dL_law_2131 rfl hkr (J_amountOfPayment hS  hF7 hF8) hw hl k (by omega) (by omega)
end LAW3
