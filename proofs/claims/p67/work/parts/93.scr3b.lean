set_option maxHeartbeats 4000000 in
set_option maxRecDepth 100000 in
theorem kX5_endPass (l : Launch) (X : KX) (xc tg a1 a2 a3 : Nat) (en ex dp s1 s2 s3 kt ek eo : Int) (xt tt : Nat) (tn tp ts tk tv : Int) (T : Nat → Int) (f1 f2 f3 : Nat → Int) (ht : 0 ≤ tn ∧ tn ≤ 500) (hT : ∀ k : Nat, 0 ≤ T k ∧ T k ≤ 255) (hp : 0 ≤ ts ∧ ts ≤ tp ∧ tp ≤ tn) (hk : 0 ≤ tk ∧ tk ≤ 4) (hv : 0 ≤ tv ∧ tv ≤ 9999999) (he : 0 ≤ ek ∧ ek ≤ 9) (hd : 0 ≤ dp ∧ dp ≤ 3) (hex : 0 ≤ ex ∧ ex ≤ 300) (hf : ∀ k : Nat, (k : Int) < dp → (0 ≤ f1 k ∧ f1 k ≤ tn) ∧ (1 ≤ f2 k ∧ f2 k ≤ 24) ∧ (0 ≤ f3 k ∧ f3 k ≤ 300)) (hd1 : 1 ≤ dp) (he0 : ek = 0) : CM l X yX5_endPass wsX5_endPass ({ frames := 4, cells := 0, slots := 0, locals := 83 }) [.ref xc] ([oX5 xc xt tg en ex dp a1 a2 a3 s1 s2 s3 kt ek eo, oX6 xt tt tn tp ts tk tv, arB X tt 500 (sB T), arI X a1 3 f1, arI X a2 3 f2, arI X a3 3 f3]) (fun v9 w9 => ∃ na : Int, ∃ nb : Int, ∃ nk : Int, ∃ ng : Int, ∃ ke : Int, ∃ ko : Int, ∃ dq : Int, ∃ g3 : Nat → Int, (((1 < f2 (dp - 1).toNat ∧ f3 (dp - 1).toNat < ex) ∧ na = f1 (dp - 1).toNat ∧ nb = ts ∧ nk = tk ∧ ng = tv ∧ ke = ek ∧ ko = eo ∧ dq = dp ∧ g3 = uI f3 (dp - 1).toNat ex) ∨ (¬ (1 < f2 (dp - 1).toNat ∧ f3 (dp - 1).toNat < ex) ∧ SIGS T tn tp ts tk tv ek eo na nb nk ng ke ko 59 ∧ dq = dp - 1 ∧ g3 = f3)) ∧ ((0 ≤ nk ∧ nk ≤ 4) ∧ (0 ≤ ng ∧ ng ≤ 9999999) ∧ 0 ≤ na ∧ na ≤ tn ∧ 0 ≤ nb ∧ nb ≤ tn ∧ 0 ≤ ke ∧ ke ≤ 9) ∧ v9 = none ∧ w9 = [oX5 xc xt tg en ex dq a1 a2 a3 s1 s2 s3 kt ke ko, oX6 xt tt tn na nb nk ng, arB X tt 500 (sB T), arI X a1 3 f1, arI X a2 3 (uI f2 (dp - 1).toNat (f2 (dp - 1).toNat - 1)), arI X a3 3 g3]) 0 0 := by
  refine lo_enter (cc := cX5_endPass) (maxL := 2) (ret := none) (lv := [(0, .ref xc)]) (by decide) rfl rfl (Nat.le_of_ble_eq_true rfl) ?_
  intro p9 e9 s9 m9 bl9 me9 c9 A9 ls hAe E hRt hLk hK hl hw
  have Ex := E.1
  have Eb := E.2.1
  have huRX5 : ∀ w ∈ u_ws RX5 TX5 14, w ∈ wsX5_endPass := by decide +kernel
  have hf19 : (Cond.fieldLink RX5 19 "LoanSchedule$Script" "depth" "I").before _ s9 = true := E.2.2.2.2 _ (List.mem_of_getElem? (i := 1) rfl)
  have hf26 : (Cond.fieldLink RX5 26 "LoanSchedule$Script" "passesLeft" "[I").before _ s9 = true := E.2.2.2.2 _ (List.mem_of_getElem? (i := 2) rfl)
  have hf15 : (Cond.fieldLink RX5 15 "LoanSchedule$Script" "executed" "I").before _ s9 = true := E.2.2.2.2 _ (List.mem_of_getElem? (i := 3) rfl)
  have hf29 : (Cond.fieldLink RX5 29 "LoanSchedule$Script" "executedBefore" "[I").before _ s9 = true := E.2.2.2.2 _ (List.mem_of_getElem? (i := 4) rfl)
  have hf55 : (Cond.fieldLink RX5 55 "LoanSchedule$Script" "tokens" "LLoanSchedule$Tokens;").before _ s9 = true := E.2.2.2.2 _ (List.mem_of_getElem? (i := 5) rfl)
  have hf22 : (Cond.fieldLink RX5 22 "LoanSchedule$Script" "bodyStart" "[I").before _ s9 = true := E.2.2.2.2 _ (List.mem_of_getElem? (i := 6) rfl)
  have huRX6 : ∀ w ∈ u_ws RX6 TX6 6, w ∈ wsX5_endPass := by decide +kernel
  have hf144 : (Cond.fieldLink RX5 144 "LoanSchedule$Tokens" "position" "I").before _ s9 = true := E.2.2.2.2 _ (List.mem_of_getElem? (i := 7) rfl)
  have hfl := hf (dp - 1).toNat (by omega)
  have hu9 : uI f2 (dp - 1).toNat (f2 (dp - 1).toNat - 1) (dp - 1).toNat = f2 (dp - 1).toNat - 1 := uI_s
  refine lv_aload_n Ex Eb dX5_endPass_0 rfl (lv_at hl 0 rfl) ?_
  refine lo_get E hK hw huRX5 4 hf19 rfl 0 rfl rfl (by decide) (v := .int (iI dp)) rfl dX5_endPass_1 ?_
  refine lv_iconst (v := iI 1) Ex Eb dX5_endPass_4 rfl ?_
  refine lo_isub E dX5_endPass_5 ?_
  refine lv_istore_n (lv' := [(1, .int (iI (dp - 1))), (0, .ref xc)]) Ex Eb dX5_endPass_6 rfl hl (by decide) rfl (fun ls hl => ?_)
  refine lv_iload_n Ex Eb dX5_endPass_7 rfl (lv_at hl 0 rfl) ?_
  refine lo_if_lt (tgt := 16) E dX5_endPass_8 (by decide) (by omega) (fun c1 => ?_) (fun c1 => ?_)
  · exact absurd c1 (by omega)
  · skip
    refine lv_iload_n Ex Eb dX5_endPass_11 rfl (lv_at hl 0 rfl) ?_
    refine lv_iconst (v := iI 3) Ex Eb dX5_endPass_12 rfl ?_
    refine lo_icmp_lt (tgt := 17) E dX5_endPass_13 (by decide) (by omega) (by omega) (fun c2 => ?_) (fun c2 => ?_)
    · skip
      refine lv_aload_n Ex Eb dX5_endPass_17 rfl (lv_at hl 1 rfl) ?_
      refine lo_get E hK hw huRX5 6 hf26 rfl 0 rfl rfl (by decide) (v := .ref a2) rfl dX5_endPass_18 ?_
      refine lv_iload_n Ex Eb dX5_endPass_21 rfl (lv_at hl 0 rfl) ?_
      refine lv_dup2_11 Ex Eb dX5_endPass_22 rfl rfl ?_
      refine lo_iald E hK hw 4 rfl (by omega) dX5_endPass_23 ?_
      refine lv_iconst (v := iI 1) Ex Eb dX5_endPass_24 rfl ?_
      refine lo_isub E dX5_endPass_25 ?_
      refine lo_iast E hK hw 4 rfl (by omega) (ws' := [oX5 xc xt tg en ex dp a1 a2 a3 s1 s2 s3 kt ek eo, oX6 xt tt tn tp ts tk tv, arB X tt 500 (sB T), arI X a1 3 f1, arI X a2 3 (uI f2 (dp - 1).toNat ((f2 (dp - 1).toNat) - 1)), arI X a3 3 f3]) rfl dX5_endPass_26 (fun H locs hw => ?_)
      refine lv_aload_n Ex Eb dX5_endPass_27 rfl (lv_at hl 1 rfl) ?_
      refine lo_get E hK hw huRX5 6 hf26 rfl 0 rfl rfl (by decide) (v := .ref a2) rfl dX5_endPass_28 ?_
      refine lv_iload_n Ex Eb dX5_endPass_31 rfl (lv_at hl 0 rfl) ?_
      refine lo_iald E hK hw 4 rfl (by omega) dX5_endPass_32 ?_
      refine lo_if_le (tgt := 75) E dX5_endPass_33 (by decide) (by omega) (fun c3 => ?_) (fun c3 => ?_)
      · skip
        refine lv_aload_n Ex Eb dX5_endPass_75 rfl (lv_at hl 1 rfl) ?_
        refine lv_dup Ex Eb dX5_endPass_76 rfl ?_
        refine lo_get E hK hw huRX5 4 hf19 rfl 0 rfl rfl (by decide) (v := .int (iI dp)) rfl dX5_endPass_77 ?_
        refine lv_iconst (v := iI 1) Ex Eb dX5_endPass_80 rfl ?_
        refine lo_isub E dX5_endPass_81 ?_
        refine lo_put E hK hw huRX5 tyX5 tyX5_ok nmX5 4 hf19 rfl 0 rfl rfl (by decide) rfl rfl rfl rfl (Nat.le_of_ble_eq_true rfl) (ws' := [oX5 xc xt tg en ex (dp - 1) a1 a2 a3 s1 s2 s3 kt ek eo, oX6 xt tt tn tp ts tk tv, arB X tt 500 (sB T), arI X a1 3 f1, arI X a2 3 (uI f2 (dp - 1).toNat ((f2 (dp - 1).toNat) - 1)), arI X a3 3 f3]) rfl dX5_endPass_82 (fun H locs hw => ?_)
        refine lv_aload_n Ex Eb dX5_endPass_85 rfl (lv_at hl 1 rfl) ?_
        refine lv_bipush (v := iI 59) Ex Eb dX5_endPass_86 rfl ?_
        refine lo_callV (q0 := 0) (rest := []) E hK hw (kX5_expectSign l X xc tg a1 a2 a3 en ex (dp - 1) s1 s2 s3 kt ek eo xt tt tn tp ts tk tv T 59 (ht) (hT) (hp) (hk) (hv) (he) (by omega)) (cwV 1 E.2.2.2.2 gX5_endPass_X5_expectSign rfl rfl rfl (by decide +kernel) ⟨Nat.le_of_ble_eq_true rfl, Nat.le_of_ble_eq_true rfl⟩) rfl rfl [0, 1, 2] rfl (by decide) hl.1 rfl rfl (Nat.le_of_ble_eq_true rfl) dX5_endPass_88 ⟨Nat.le_of_ble_eq_true rfl, Nat.le_of_ble_eq_true rfl⟩ (fun v w1 H locs hq hw => ?_)
        obtain ⟨na4, nb5, nk6, ng7, ke8, ko9, q88_0, q88_1, q88_2, rfl, rfl⟩ := hq
        have hw : lo_Wd X ([oX5 xc xt tg en ex (dp - 1) a1 a2 a3 s1 s2 s3 kt ke8 ko9, oX6 xt tt tn na4 nb5 nk6 ng7, arB X tt 500 (sB T), arI X a1 3 f1, arI X a2 3 (uI f2 (dp - 1).toNat ((f2 (dp - 1).toNat) - 1)), arI X a3 3 f3]) A9 s9.heap H locs := hw
        refine W.eq (g2 := F0 m9 91 ls []) rfl ?_
        exact lo_vret E hRt hLk hK hAe hw dX5_endPass_91 rfl ⟨na4, nb5, nk6, ng7, ke8, ko9, dp - 1, f3, (by first | (exfalso; omega) | exact Or.inl ⟨⟨by omega, by omega⟩, rfl, rfl, rfl, rfl, rfl, rfl, rfl, rfl⟩ | exact Or.inr ⟨by omega, ⟨q88_0, q88_2⟩, rfl, rfl⟩), (by omega), rfl, rfl⟩
      · skip
        refine lv_aload_n Ex Eb dX5_endPass_36 rfl (lv_at hl 1 rfl) ?_
        refine lo_get E hK hw huRX5 3 hf15 rfl 0 rfl rfl (by decide) (v := .int (iI ex)) rfl dX5_endPass_37 ?_
        refine lv_aload_n Ex Eb dX5_endPass_40 rfl (lv_at hl 1 rfl) ?_
        refine lo_get E hK hw huRX5 7 hf29 rfl 0 rfl rfl (by decide) (v := .ref a3) rfl dX5_endPass_41 ?_
        refine lv_iload_n Ex Eb dX5_endPass_44 rfl (lv_at hl 0 rfl) ?_
        refine lo_iald E hK hw 5 rfl (by omega) dX5_endPass_45 ?_
        refine lo_icmp_le (tgt := 75) E dX5_endPass_46 (by decide) (by omega) (by omega) (fun c10 => ?_) (fun c10 => ?_)
        · skip
          refine lv_aload_n Ex Eb dX5_endPass_75 rfl (lv_at hl 1 rfl) ?_
          refine lv_dup Ex Eb dX5_endPass_76 rfl ?_
          refine lo_get E hK hw huRX5 4 hf19 rfl 0 rfl rfl (by decide) (v := .int (iI dp)) rfl dX5_endPass_77 ?_
          refine lv_iconst (v := iI 1) Ex Eb dX5_endPass_80 rfl ?_
          refine lo_isub E dX5_endPass_81 ?_
          refine lo_put E hK hw huRX5 tyX5 tyX5_ok nmX5 4 hf19 rfl 0 rfl rfl (by decide) rfl rfl rfl rfl (Nat.le_of_ble_eq_true rfl) (ws' := [oX5 xc xt tg en ex (dp - 1) a1 a2 a3 s1 s2 s3 kt ek eo, oX6 xt tt tn tp ts tk tv, arB X tt 500 (sB T), arI X a1 3 f1, arI X a2 3 (uI f2 (dp - 1).toNat ((f2 (dp - 1).toNat) - 1)), arI X a3 3 f3]) rfl dX5_endPass_82 (fun H locs hw => ?_)
          refine lv_aload_n Ex Eb dX5_endPass_85 rfl (lv_at hl 1 rfl) ?_
          refine lv_bipush (v := iI 59) Ex Eb dX5_endPass_86 rfl ?_
          refine lo_callV (q0 := 0) (rest := []) E hK hw (kX5_expectSign l X xc tg a1 a2 a3 en ex (dp - 1) s1 s2 s3 kt ek eo xt tt tn tp ts tk tv T 59 (ht) (hT) (hp) (hk) (hv) (he) (by omega)) (cwV 1 E.2.2.2.2 gX5_endPass_X5_expectSign rfl rfl rfl (by decide +kernel) ⟨Nat.le_of_ble_eq_true rfl, Nat.le_of_ble_eq_true rfl⟩) rfl rfl [0, 1, 2] rfl (by decide) hl.1 rfl rfl (Nat.le_of_ble_eq_true rfl) dX5_endPass_88 ⟨Nat.le_of_ble_eq_true rfl, Nat.le_of_ble_eq_true rfl⟩ (fun v w1 H locs hq hw => ?_)
          obtain ⟨na11, nb12, nk13, ng14, ke15, ko16, q88_0, q88_1, q88_2, rfl, rfl⟩ := hq
          have hw : lo_Wd X ([oX5 xc xt tg en ex (dp - 1) a1 a2 a3 s1 s2 s3 kt ke15 ko16, oX6 xt tt tn na11 nb12 nk13 ng14, arB X tt 500 (sB T), arI X a1 3 f1, arI X a2 3 (uI f2 (dp - 1).toNat ((f2 (dp - 1).toNat) - 1)), arI X a3 3 f3]) A9 s9.heap H locs := hw
          refine W.eq (g2 := F0 m9 91 ls []) rfl ?_
          exact lo_vret E hRt hLk hK hAe hw dX5_endPass_91 rfl ⟨na11, nb12, nk13, ng14, ke15, ko16, dp - 1, f3, (by first | (exfalso; omega) | exact Or.inl ⟨⟨by omega, by omega⟩, rfl, rfl, rfl, rfl, rfl, rfl, rfl, rfl⟩ | exact Or.inr ⟨by omega, ⟨q88_0, q88_2⟩, rfl, rfl⟩), (by omega), rfl, rfl⟩
        · skip
          refine lv_aload_n Ex Eb dX5_endPass_49 rfl (lv_at hl 1 rfl) ?_
          refine lo_get E hK hw huRX5 7 hf29 rfl 0 rfl rfl (by decide) (v := .ref a3) rfl dX5_endPass_50 ?_
          refine lv_iload_n Ex Eb dX5_endPass_53 rfl (lv_at hl 0 rfl) ?_
          refine lv_aload_n Ex Eb dX5_endPass_54 rfl (lv_at hl 1 rfl) ?_
          refine lo_get E hK hw huRX5 3 hf15 rfl 0 rfl rfl (by decide) (v := .int (iI ex)) rfl dX5_endPass_55 ?_
          refine lo_iast E hK hw 5 rfl (by omega) (ws' := [oX5 xc xt tg en ex dp a1 a2 a3 s1 s2 s3 kt ek eo, oX6 xt tt tn tp ts tk tv, arB X tt 500 (sB T), arI X a1 3 f1, arI X a2 3 (uI f2 (dp - 1).toNat ((f2 (dp - 1).toNat) - 1)), arI X a3 3 (uI f3 (dp - 1).toNat ex)]) rfl dX5_endPass_58 (fun H locs hw => ?_)
          refine lv_aload_n Ex Eb dX5_endPass_59 rfl (lv_at hl 1 rfl) ?_
          refine lo_get E hK hw huRX5 0 hf55 rfl 0 rfl rfl (by decide) (v := .ref xt) rfl dX5_endPass_60 ?_
          refine lv_aload_n Ex Eb dX5_endPass_63 rfl (lv_at hl 1 rfl) ?_
          refine lo_get E hK hw huRX5 5 hf22 rfl 0 rfl rfl (by decide) (v := .ref a1) rfl dX5_endPass_64 ?_
          refine lv_iload_n Ex Eb dX5_endPass_67 rfl (lv_at hl 0 rfl) ?_
          refine lo_iald E hK hw 3 rfl (by omega) dX5_endPass_68 ?_
          refine lo_put E hK hw huRX6 tyX6 tyX6_ok nmX6 2 hf144 rfl 1 rfl rfl (by decide) rfl rfl rfl rfl (Nat.le_of_ble_eq_true rfl) (ws' := [oX5 xc xt tg en ex dp a1 a2 a3 s1 s2 s3 kt ek eo, oX6 xt tt tn (f1 (dp - 1).toNat) ts tk tv, arB X tt 500 (sB T), arI X a1 3 f1, arI X a2 3 (uI f2 (dp - 1).toNat ((f2 (dp - 1).toNat) - 1)), arI X a3 3 (uI f3 (dp - 1).toNat ex)]) rfl dX5_endPass_69 (fun H locs hw => ?_)
          refine lv_goto (tgt := 91) Ex Eb dX5_endPass_72 (by decide) ?_
          exact lo_vret E hRt hLk hK hAe hw dX5_endPass_91 rfl ⟨f1 (dp - 1).toNat, ts, tk, tv, ek, eo, dp, uI f3 (dp - 1).toNat ex, (by first | (exfalso; omega) | exact Or.inl ⟨⟨by omega, by omega⟩, rfl, rfl, rfl, rfl, rfl, rfl, rfl, rfl⟩ | exact Or.inr ⟨by omega, ⟨q88_0, q88_2⟩, rfl, rfl⟩), (by omega), rfl, rfl⟩
    · exact absurd c2 (by omega)
