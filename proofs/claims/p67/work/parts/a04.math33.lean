/-! a step of the class's script, by the machine -/
def AV (n d : Int) (f g h : Nat → Int) : Prop := ∀ k : Nat, (k : Int) < d → (0 ≤ f k ∧ f k ≤ n) ∧ (1 ≤ g k ∧ g k ≤ 24) ∧ (0 ≤ h k ∧ h k ≤ 300)
def RCM (T : Nat → Int) (n p x d : Int) (f g h : Nat → Int) (na ke ko eo dq : Int) (f2 g2 h2 : Nat → Int) (z ee : Int) : Prop :=
  (z = 0 ∧ ee = 1 ∧ ke = 0 ∧ ∀ w, stp T n (sRun p x d f g h w) = sFin w) ∨
  (z = 0 ∧ ee = 0 ∧ ke ≠ 0 ∧ ∀ w, stp T n (sRun p x d f g h w) = sBad ke ko) ∨
  (z = 0 ∧ ee = 0 ∧ ke = 0 ∧ ((dq = d ∧ 1 ≤ d ∧ d ≤ 3 ∧ h (d - 1).toNat < x ∧ h2 = uI h (d - 1).toNat x) ∨ (dq = d - 1 ∧ 1 ≤ d ∧ d ≤ 3 ∧ h2 = h ∧ p < na) ∨ (dq = d + 1 ∧ 0 ≤ d ∧ d < 3 ∧ h2 = uI h d.toNat x ∧ p < na)) ∧ AV n dq f2 g2 h2 ∧ ∀ w, stp T n (sRun p x d f g h w) = sRun na x dq f2 g2 h2 w) ∨
  (1 ≤ z ∧ z ≤ 7 ∧ cw T n p = z ∧ x < 300 ∧ na = toE T n p ∧ ee = 0 ∧ ke = 0 ∧ ko = eo ∧ dq = d ∧ f2 = f ∧ g2 = g ∧ h2 = h)
section RC
variable {T : Nat → Int} {n p x d : Int} {f g h f2 g2 h2 : Nat → Int} {na ke ko eo dq z ee nb nk ng : Int}
theorem RCM_fin (hz : z = 0) (he : ee = 1) (hke : ke = 0) (hk : toK T n p = 0) (hd : d = 0) : RCM T n p x d f g h na ke ko eo dq f2 g2 h2 z ee :=
  Or.inl ⟨hz, he, hke, fun _ => stp_fin hk hd⟩
theorem RCM_bad (hz : z = 0) (he : ee = 0) (hke : ke ≠ 0) (hs : ∀ w, stp T n (sRun p x d f g h w) = sBad ke ko) : RCM T n p x d f g h na ke ko eo dq f2 g2 h2 z ee :=
  Or.inr (Or.inl ⟨hz, he, hke, hs⟩)
theorem RCM_none (hz : z = 0) (he : ee = 0) (hk : ¬ (toK T n p = 0 ∧ d = 0)) (hs : ¬ (toK T n p = 3 ∧ T (toB T n p).toNat = 41 ∧ 0 < d)) (hc : cw T n p = 0) : RCM T n p x d f g h na 1 (toB T n p) eo dq f2 g2 h2 z ee :=
  RCM_bad hz he (by omega) (fun _ => stp_none hk hs hc)
theorem RCM_many (hz : z = 0) (he : ee = 0) (hc : 1 ≤ cw T n p ∧ cw T n p ≤ 7) (hx : 300 ≤ x) : RCM T n p x d f g h na 5 (toB T n p) eo dq f2 g2 h2 z ee :=
  RCM_bad hz he (by omega) (fun _ => stp_many hc hx)
theorem RCM_cmd (he : ee = 0) (hc : 1 ≤ cw T n p ∧ cw T n p ≤ 7) (hz : cw T n p = z) (hx : x < 300) (hna : na = toE T n p) (hke : ke = 0) : RCM T n p x d f g h na ke eo eo d f g h z ee :=
  Or.inr (Or.inr (Or.inr ⟨by omega, by omega, hz, hx, hna, he, hke, rfl, rfl, rfl, rfl, rfl⟩))
theorem RCM_pass {a b k v : Int} (hz : z = 0) (he : ee = 0) (hp : p ≤ n) (hk : toK T n p = 3) (hs : T (toB T n p).toNat = 41) (hd : 1 ≤ d ∧ d ≤ 3) (hx : 0 ≤ x ∧ x ≤ 300) (hf : AV n d f g h) (ha : a = toE T n p)
    (q : ((1 < g (d - 1).toNat ∧ h (d - 1).toNat < x) ∧ na = f (d - 1).toNat ∧ nb = b ∧ nk = k ∧ ng = v ∧ ke = 0 ∧ ko = eo ∧ dq = d ∧ h2 = uI h (d - 1).toNat x) ∨ (¬ (1 < g (d - 1).toNat ∧ h (d - 1).toNat < x) ∧ SIGS T n a b k v 0 eo na nb nk ng ke ko 59 ∧ dq = d - 1 ∧ h2 = h)) :
    RCM T n p x d f g h na ke ko eo dq f (uI g (d - 1).toNat (g (d - 1).toNat - 1)) h2 z ee := by
  have ht := tok_r (T := T) hp
  have hl := hf (d - 1).toNat (by omega)
  rcases q with ⟨c, q1, -, -, -, q2, q3, q4, q5⟩ | ⟨c, q1, q2, q3⟩
  · refine Or.inr (Or.inr (Or.inl ⟨hz, he, q2, Or.inl ⟨q4, hd.1, hd.2, c.2, q5⟩, ?_, fun w => ?_⟩))
    · intro j hj
      rw [q4] at hj
      have hj2 := hf j hj
      subst q5
      by_cases e : j = (d - 1).toNat
      · rw [e, uI_s, uI_s]
        rw [e] at hj2
        omega
      · rw [uI_n e, uI_n e]
        exact hj2
    · rw [q1, q4, q5]
      exact stp_again hk hs (by omega) c
  · subst ha
    rcases SIGS_f q1 with ⟨r, r2, r3⟩ | ⟨r, r2⟩
    · have hr := exS_r (by omega) r
      refine Or.inr (Or.inr (Or.inl ⟨hz, he, r2, Or.inr (Or.inl ⟨q2, hd.1, hd.2, q3, ?_⟩), ?_, fun w => ?_⟩))
      · have : toE T n p ≤ nb ∧ nb < na ∧ na ≤ n := hr
        omega
      · intro j hj
        rw [q2] at hj
        rw [q3, uI_n (by omega)]
        exact hf j (by omega)
      · rw [q2, q3]
        exact stp_leaveY hk hs (by omega) c r
    · exact RCM_bad hz he r2 (fun w => stp_leaveN hk hs (by omega) c r)
theorem RCM_rep {a b k v : Int} (hz : z = 0) (he : ee = 0) (hp : p ≤ n) (hp0 : 0 ≤ p) (hc : cw T n p = 8) (hd : 0 ≤ d ∧ d ≤ 3) (hx : 0 ≤ x ∧ x ≤ 300) (hf : AV n d f g h) (ha : a = toE T n p) (hb : b = toB T n p)
    (q : (d = 3 ∧ ke = 4 ∧ ko = b ∧ na = a ∧ nb = b ∧ nk = k ∧ ng = v ∧ dq = d ∧ f2 = f ∧ g2 = g ∧ h2 = h) ∨ (d < 3 ∧ ∃ a1 b1 k1 g1 e1 o1 z1 : Int, NUMS T n a b k v 0 eo a1 b1 k1 g1 e1 o1 1 24 z1 ∧ SIGS T n a1 b1 k1 g1 e1 o1 na nb nk ng ke ko 40 ∧ dq = d + 1 ∧ f2 = uI f d.toNat na ∧ g2 = uI g d.toNat z1 ∧ h2 = uI h d.toNat x)) :
    RCM T n p x d f g h na ke ko eo dq f2 g2 h2 z ee := by
  have ht := tok_r (T := T) hp
  subst ha
  subst hb
  rcases q with ⟨c, q1, q2, -⟩ | ⟨c, a1, b1, k1, g1, e1, o1, z1, q1, q2, q3, q4, q5, q6⟩
  · refine RCM_bad hz he (by omega) (fun w => ?_)
    rw [q1, q2]
    exact stp_deep hc c
  · rcases NUMS_f q1 with ⟨r, r2, r3⟩ | ⟨r, r2⟩
    · subst r2
      have hr : 1 ≤ z1 ∧ z1 ≤ 24 ∧ toE T n p < a1 ∧ a1 ≤ n := exN_r (by omega) r
      rcases SIGS_f q2 with ⟨u, u2, u3⟩ | ⟨u, u2⟩
      · have hu : a1 ≤ nb ∧ nb < na ∧ na ≤ n := exS_r (by omega) u
        have hR : exR T n (toE T n p) = .ok (z1, na) := by
          unfold exR
          rw [r]
          show (exS T n 40 a1).bind _ = _
          rw [u]; rfl
        refine Or.inr (Or.inr (Or.inl ⟨hz, he, u2, Or.inr (Or.inr ⟨q3, hd.1, c, q6, by omega⟩), ?_, fun w => ?_⟩))
        · intro j hj
          rw [q3] at hj
          rw [q4, q5, q6]
          by_cases e : j = d.toNat
          · rw [e, uI_s, uI_s, uI_s]; omega
          · rw [uI_n e, uI_n e, uI_n e]
            exact hf j (by omega)
        · rw [q3, q4, q5, q6]
          exact stp_repY hc (by omega) hR
      · refine RCM_bad hz he u2 (fun w => ?_)
        have hR : exR T n (toE T n p) = .error (ke, ko) := by
          unfold exR
          rw [r]
          show (exS T n 40 a1).bind _ = _
          rw [u]; rfl
        exact stp_repN hc (by omega) hR
    · obtain ⟨rfl, rfl⟩ := SIGS_e r2 q2
      refine RCM_bad hz he r2 (fun w => ?_)
      have hR : exR T n (toE T n p) = .error (ke, ko) := by
        unfold exR
        rw [r]; rfl
      exact stp_repN hc (by omega) hR
theorem RCM_z (hz : z ≠ 0) (q : RCM T n p x d f g h na ke ko eo dq f2 g2 h2 z ee) : 1 ≤ z ∧ z ≤ 7 ∧ cw T n p = z ∧ x < 300 ∧ na = toE T n p ∧ ee = 0 ∧ ke = 0 ∧ ko = eo ∧ dq = d ∧ f2 = f ∧ g2 = g ∧ h2 = h := by
  rcases q with ⟨q, -⟩ | ⟨q, -⟩ | ⟨q, -⟩ | q
  · exact absurd q hz
  · exact absurd q hz
  · exact absurd q hz
  · exact q
end RC
