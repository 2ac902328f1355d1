/-! all pay: loan by loan -/
theorem pay1_x {f g : Nat → Int} (e : ∀ k, k < 10 → f k = g k) : ∀ k, k < 10 → pay1 f k = pay1 g k := by
  intro k hk
  unfold pay1
  by_cases h : 0 < f 1
  · rw [if_pos h, if_pos (by rw [← e 1 (by omega)]; exact h), payL_x e]
  · rw [if_neg h, if_neg (by rw [← e 1 (by omega)]; exact h)]; exact e k hk
theorem wAll_L {w : Nat → Int} (h : WI w) : ∀ k : Nat, (k : Int) ≤ w 0 → ∀ j : Int, 0 ≤ j → ∀ q : Nat, q < 10 → (j < k → wOf (wAll w k) j q = pay1 (WL w j) q) ∧ (¬ j < k → wOf (wAll w k) j q = wOf w j q)
  | 0, _, j, hj, q, _ => ⟨fun c => absurd c (by omega), fun _ => rfl⟩
  | k + 1, hk, j, hj, q, hq => by
    have ih := wAll_L h k (by omega)
    have hW := wAll_WI h k (by omega)
    have hL := hW.1.2.2 k (by omega) (by omega)
    have ek : ∀ q, q < 10 → WL (wAll w k) k q = WL w k q := fun q hq => (ih k (by omega) q hq).2 (by omega)
    by_cases c : 0 < wOf (wAll w k) k 1
    · have e : wAll w (k + 1) = wPay (wAll w k) k := if_pos c
      have r := wPay_R (by omega) hL c
      rw [e]
      by_cases jk : j = k
      · subst jk
        refine ⟨fun _ => ?_, fun c => absurd (show ((k : Nat) : Int) < ((k + 1 : Nat) : Int) by omega) c⟩
        rw [r.1 q hq, payL_x ek]
        have c' : 0 < WL w k 1 := by rw [← ek 1 (by omega)]; exact c
        exact (congrFun (show pay1 (WL w k) = payL (WL w k) from if_pos c') q).symm
      · have e2 := (r.2.1 j hj jk q hq).trans (wOf_b hj (by omega))
        rw [e2]
        exact ⟨fun c => (ih j hj q hq).1 (by omega), fun c => (ih j hj q hq).2 (by omega)⟩
    · have e : wAll w (k + 1) = wAll w k := if_neg c
      rw [e]
      by_cases jk : j = k
      · subst jk
        refine ⟨fun _ => ?_, fun c => absurd (show ((k : Nat) : Int) < ((k + 1 : Nat) : Int) by omega) c⟩
        have c' : ¬ 0 < WL w k 1 := by rw [← ek 1 (by omega)]; exact c
        rw [(ih k hj q hq).2 (by omega)]
        exact (congrFun (show pay1 (WL w k) = WL w k from if_neg c') q).symm
      · exact ⟨fun c => (ih j hj q hq).1 (by omega), fun c => (ih j hj q hq).2 (by omega)⟩
/-- no open loan has more than B months -/
def MB (w : Nat → Int) (B : Nat) : Prop := ∀ i : Int, 0 ≤ i → i < w 0 → 0 < wOf w i 1 → wOf w i 3 ≤ B
theorem MB_120 {w : Nat → Int} (h : WI w) : MB w 120 := fun i h0 hi _ => (h.2.2 i h0 hi).2.2.2.1.2
theorem cnt_z (f : Nat → Nat → Int) : ∀ n, (∀ j, j < n → ¬ 0 < f j 1) → cnt f n = 0
  | 0, _ => rfl
  | n + 1, h => (if_neg (h n (by omega))).trans (cnt_z f n (fun j hj => h j (by omega)))
theorem MB_1 {w : Nat → Int} {B : Nat} (h : WI w) (hB : MB w B) (hc : 0 < cnt (LWf w) (w 0).toNat) : 1 ≤ B := by
  by_cases c : 1 ≤ B
  · exact c
  · exfalso
    have hz := cnt_z (LWf w) (w 0).toNat (fun j hj ho => by
      have h3 := hB j (by omega) (by omega) ho
      have h4 := ((h.2.2 j (by omega) (by omega)).2.2.2.2.2.2.1 ho).1
      have h5 : 1 ≤ wOf w j 3 := h4
      omega)
    omega
theorem MB_all {w : Nat → Int} {B : Nat} (h : WI w) (hB : MB w B) : MB (wAll w (w 0).toNat) (B - 1) := by
  intro i h0 hi ho
  have hW := wAll_WI h (w 0).toNat (by have := h.1.1; omega)
  have hL := wAll_L h (w 0).toNat (by have := h.1.1; omega) i h0
  have h1 := (hL 1 (by omega)).1 (by omega)
  have h3 := (hL 3 (by omega)).1 (by omega)
  have e1 : wOf (wAll w (w 0).toNat) i 1 = pay1 (WL w i) 1 := h1
  have e3 : wOf (wAll w (w 0).toNat) i 3 = pay1 (WL w i) 3 := h3
  rw [e1] at ho
  rw [e3]
  by_cases c : 0 < WL w i 1
  · have e : pay1 (WL w i) = payL (WL w i) := if_pos c
    rw [e] at ho ⊢
    have hB3 := hB i h0 (by omega) c
    have hN : payL (WL w i) 1 = fW (WL w i 1) (WL w i 2) (WL w i 5) - dueL (WL w i) := rfl
    have hz : payL (WL w i) 3 = WL w i 3 + (-1) := fz_n (by omega)
    have h33 : 1 ≤ WL w i 3 := ((h.2.2 i h0 (by omega)).2.2.2.2.2.2.1 c).1
    have h34 : WL w i 3 = wOf w i 3 := rfl
    omega
  · have e : pay1 (WL w i) = WL w i := if_neg c
    rw [e] at ho
    exact absurd ho c
theorem redL_3 {L : Nat → Int} {a : Int} (h3 : 1 ≤ L 3) : redL L a 0 3 ≤ L 3 := by
  have c := redL_cases L a 0
  by_cases z : L 1 - a = 0
  · rw [c.1 z]; show (0:Int) ≤ L 3; omega
  · rw [c.2.1 z rfl]
    show trm (L 2) (L 4) (L 3).toNat 1 (L 1 - a) (L 5) ≤ L 3
    have := trm_r (L 2) (L 4) (L 3).toNat 1 (L 1 - a) (L 5)
    omega
theorem wsp_keep (y : Int) : ∀ (n : Nat) (w : Nat → Int) (x : Int) (B : Nat), WI w → MB w B → WI (wspF y n w x) ∧ wspF y n w x 0 = w 0 ∧ MB (wspF y n w x) B
  | 0, w, x, B, h, hB => ⟨h, rfl, hB⟩
  | n + 1, w, x, B, h, hB => by
    by_cases c : 0 < x
    · by_cases ht : wTg y w = -1
      · rw [wspF_n ht]; exact ⟨h, rfl, hB⟩
      · rw [wspF_s c rfl ht rfl (by omega)]
        have hr := (wTg_r y h).resolve_left ht
        have hL := h.2.2 _ hr.1 hr.2.1
        have ho : 0 < WL w (wTg y w) 1 := hr.2.2
        have ha : 1 ≤ min x (wOf w (wTg y w) 1) := by have := hr.2.2; omega
        have ha1 : min x (wOf w (wTg y w) 1) ≤ wOf w (wTg y w) 1 := by omega
        have hk := wRed_WI (kp := 0) h hr.1 hr.2.1 hr.2.2 ha ha1
        have hM : MB (wRed w (wTg y w) (min x (wOf w (wTg y w) 1)) 0) B := by
          intro i h0 hi hoi
          by_cases e : i = wTg y w
          · rw [e]
            have r := (wRed_R (kp := 0) hr.1 hL ho ha ha1).1 3 (by omega)
            have r3 : wOf (wRed w (wTg y w) (min x (wOf w (wTg y w) 1)) 0) (wTg y w) 3 = redL (WL w (wTg y w)) (min x (wOf w (wTg y w) 1)) 0 3 := r
            have r4 := redL_3 (a := min x (wOf w (wTg y w) 1)) (hL.2.2.2.2.2.2.1 ho).1
            have r5 := hB _ hr.1 hr.2.1 hr.2.2
            have r6 : WL w (wTg y w) 3 = wOf w (wTg y w) 3 := rfl
            omega
          · have e1 : wOf (wRed w (wTg y w) (min x (wOf w (wTg y w) 1)) 0) i 1 = wOf w i 1 := wRed_o (k := 1) hr.1 hL ho ha ha1 h0 e (by omega)
            have e3 : wOf (wRed w (wTg y w) (min x (wOf w (wTg y w) 1)) 0) i 3 = wOf w i 3 := wRed_o (k := 3) hr.1 hL ho ha ha1 h0 e (by omega)
            rw [e1] at hoi
            rw [e3]
            exact hB i h0 (by have := hk.2; omega) hoi
        have ih := wsp_keep y n _ (x - min x (wOf w (wTg y w) 1)) B hk.1 hM
        exact ⟨ih.1, ih.2.1.trans hk.2, ih.2.2⟩
    · rw [wspF_e (by omega)]; exact ⟨h, rfl, hB⟩
/-- months with a budget -/
noncomputable def wbN (bu y : Int) (w : Nat → Int) : Nat → Int := wspF y 6 (wAll w (w 0).toNat) (bu - wSum w (w 0).toNat)
noncomputable def wbF (bu y : Int) : Nat → (Nat → Int) → Int → (Nat → Int) × Int
  | 0, w, mo => (w, mo)
  | n + 1, w, mo => if 0 < cnt (LWf w) (w 0).toNat then (if bu < wDue w (w 0).toNat then (w, -1) else wbF bu y n (wbN bu y w) (mo + 1)) else (w, mo)
theorem wbF_e {bu y : Int} {n : Nat} {w : Nat → Int} {mo : Int} (h : cnt (LWf w) (w 0).toNat ≤ 0) : wbF bu y n w mo = (w, mo) := by
  cases n with
  | zero => rfl
  | succ n => exact if_neg (by omega)
theorem wbF_n {bu y : Int} {n : Nat} {w : Nat → Int} {mo : Int} (hn : 1 ≤ n) (h : 0 < cnt (LWf w) (w 0).toNat) (h2 : bu < wDue w (w 0).toNat) : wbF bu y n w mo = (w, -1) := by
  obtain ⟨k, rfl⟩ : ∃ k, n = k + 1 := ⟨n - 1, by omega⟩
  exact (if_pos h).trans (if_pos h2)
theorem wbF_s {bu y : Int} {n : Nat} {w : Nat → Int} {mo : Int} (hn : 1 ≤ n) (h : 0 < cnt (LWf w) (w 0).toNat) (h2 : wDue w (w 0).toNat ≤ bu) : wbF bu y n w mo = wbF bu y (n - 1) (wbN bu y w) (mo + 1) := by
  obtain ⟨k, rfl⟩ : ∃ k, n = k + 1 := ⟨n - 1, by omega⟩
  exact (if_pos h).trans (if_neg (by omega))
theorem wbN_keep {bu y : Int} {w : Nat → Int} {B : Nat} (h : WI w) (hB : MB w B) : WI (wbN bu y w) ∧ wbN bu y w 0 = w 0 ∧ MB (wbN bu y w) (B - 1) := by
  have hA := wAll_WI h (w 0).toNat (by have := h.1.1; omega)
  have := wsp_keep y 6 _ (bu - wSum w (w 0).toNat) (B - 1) hA.1 (MB_all h hB)
  exact ⟨this.1, this.2.1.trans hA.2, this.2.2⟩
theorem wDue_r {w : Nat → Int} (h : WI w) : ∀ k : Nat, (k : Int) ≤ w 0 → 0 ≤ wDue w k ∧ wDue w k ≤ 10249999 * k
  | 0, _ => by show (0:Int) ≤ 0 ∧ (0:Int) ≤ 10249999 * 0; omega
  | k + 1, hk => by
    have ih := wDue_r h k (by omega)
    have hd := dueL_r (h.2.2 k (by omega) (by omega))
    show 0 ≤ wDue w k + dueL (WL w (k : Int)) ∧ wDue w k + dueL (WL w (k : Int)) ≤ 10249999 * ((k + 1 : Nat) : Int)
    omega
theorem wbF_r (bu y : Int) : ∀ (n : Nat) (w : Nat → Int) (mo : Int), 0 ≤ mo → -1 ≤ (wbF bu y n w mo).2 ∧ (wbF bu y n w mo).2 ≤ mo + n
  | 0, w, mo, h => by show -1 ≤ mo ∧ mo ≤ mo + (0 : Nat); omega
  | n + 1, w, mo, h => by
    by_cases c : 0 < cnt (LWf w) (w 0).toNat
    · by_cases c2 : bu < wDue w (w 0).toNat
      · rw [wbF_n (by omega) c c2]; show (-1 : Int) ≤ -1 ∧ (-1 : Int) ≤ mo + ((n + 1 : Nat) : Int); omega
      · rw [wbF_s (by omega) c (by omega)]
        have := wbF_r bu y n (wbN bu y w) (mo + 1) (by omega)
        rw [show n + 1 - 1 = n by omega]
        omega
    · rw [wbF_e (by omega)]; show -1 ≤ mo ∧ mo ≤ mo + ((n + 1 : Nat) : Int); omega
