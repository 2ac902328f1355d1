theorem NUR_i {T : Nat → Int} {n a b k g e o na nb nk ng ek eo lo hi r : Int} (h : (e = 0 ∧ (k = 2 ∧ lo ≤ g ∧ g ≤ hi) ∧ ek = 0 ∧ eo = o ∧ r = g ∧ nb = spE pSp T n a ∧ SCN T n nb g na nk ng) ∨ (e = 0 ∧ ((k ≠ 2 ∧ ek = 1) ∨ (k = 2 ∧ ¬ (lo ≤ g ∧ g ≤ hi) ∧ ek = 2)) ∧ eo = b ∧ r = 0 ∧ na = a ∧ nb = b ∧ nk = k ∧ ng = g) ∨ (e ≠ 0 ∧ ek = e ∧ eo = o ∧ r = 0 ∧ na = a ∧ nb = b ∧ nk = k ∧ ng = g)) : NUR T n a b k g e o na nb nk ng ek eo lo hi r := h
theorem TR_r {T : Nat → Int} {n p a b k g : Int} (hp : p ≤ n) (t : TR T n p a b k g) : (p ≤ b ∧ b ≤ a ∧ a ≤ n) ∧ 0 ≤ k ∧ k ≤ 6 := by
  obtain ⟨t1, t2, t3, t4⟩ := t
  have := KR_n _ _ t3
  have := tok_r (T := T) hp
  omega
theorem NUR_k {T : Nat → Int} {n a b k g e o na nb nk ng ek eo lo hi r : Int} (q : NUR T n a b k g e o na nb nk ng ek eo lo hi r) (ha : 0 ≤ b ∧ b ≤ a ∧ a ≤ n) (hk : 0 ≤ k ∧ k ≤ 6) : (0 ≤ nb ∧ nb ≤ na ∧ na ≤ n) ∧ 0 ≤ nk ∧ nk ≤ 6 := by
  rcases q with ⟨-, -, -, -, -, h1, h2⟩ | ⟨-, -, -, -, h1, h2, h3, -⟩ | ⟨-, -, -, -, h1, h2, h3, -⟩
  · have := TR_r (p := a) (by omega) (TR_sc h1 h2)
    omega
  · omega
  · omega
theorem CWi {T : Nat → Int} {n p a b k g e : Int} (t : TR T n p a b k g) (he : e = 0) (i : Nat) (hi : 1 ≤ i ∧ i ≤ 8) : (e = 0 ∧ k = 3 ∧ isW T b a (lo_tx (i + 10))) ↔ cw T n p = i := by
  obtain ⟨t1, t2, t3, t4⟩ := t
  have hk := KR_n _ _ t3
  rw [tx_10 i (by omega)]
  constructor
  · rintro ⟨-, h2, h3⟩
    refine cw_f (Or.inl ⟨by omega, by omega, by omega, ?_⟩)
    rw [← t1, ← t2, Int.toNat_natCast]
    exact h3
  · intro h
    have hc := cw_c T n p
    rw [h] at hc
    rcases hc with ⟨-, -, h1, h2⟩ | ⟨h1, -⟩
    · rw [← t1, ← t2, Int.toNat_natCast] at h2
      exact ⟨he, by omega, h2⟩
    · omega
theorem wdI {z : Int} {P Q : Prop} (q : (z = 1 ∧ P) ∨ (z = 0 ∧ ¬ P)) (h : P ↔ Q) : (z = 1 ∧ Q) ∨ (z = 0 ∧ ¬ Q) := by
  rcases q with ⟨a, b⟩ | ⟨a, b⟩
  · exact Or.inl ⟨a, h.1 b⟩
  · exact Or.inr ⟨a, fun c => b (h.2 c)⟩
theorem ONE_eq {T : Nat → Int} {n c p na ek eo na2 ek2 eo2 : Int} {w u : Nat → Int} (h : ONE T n c w p u na ek eo) (h1 : na2 = na) (h2 : ek2 = ek) (h3 : eo2 = eo) : ONE T n c w p u na2 ek2 eo2 := by
  rw [h1, h2, h3]; exact h
/-- a plan of the class for any row -/
theorem PW_x {w : Nat → Int} (h : WI w) : ∃ P, PW P w := by
  refine ⟨(w 0, fun i => if (i : Int) < w 0 then WL w i else newL 1 0 1, 0, w 1, fun j => w (2 + 3 * (19 - j)), fun j => w (3 + 3 * (19 - j)), fun j => w (4 + 3 * (19 - j))), ⟨h.1, by show (0:Int) ≤ 0 ∧ (0:Int) < 20; omega, h.2.1, fun i hi => ?_⟩, h, ⟨rfl, fun i hi k hk => ?_⟩, ⟨by show (0:Int) ≤ 0 ∧ (0:Int) < 20; omega, ⟨rfl, h.2.1.1, h.2.1.2⟩, fun k hk => ?_⟩⟩
  · show LI (if (i : Int) < w 0 then WL w i else newL 1 0 1)
    by_cases c : (i : Int) < w 0
    · rw [if_pos c]; exact h.2.2 i (by omega) c
    · rw [if_neg c]; exact newL_LI (by omega) (by omega) (by omega) (by omega) (by omega) (by omega)
  · have hi2 : (i : Int) < w 0 := hi
    show (if (i : Int) < w 0 then WL w i else newL 1 0 1) k = _
    rw [if_pos hi2]; rfl
  · have hk2 : (k : Int) < w 1 := hk
    have := h.2.1.2
    show w (2 + 3 * (19 - ((0 - 1 - (k : Int)) % 20).toNat)) = _ ∧ w (3 + 3 * (19 - ((0 - 1 - (k : Int)) % 20).toNat)) = _ ∧ w (4 + 3 * (19 - ((0 - 1 - (k : Int)) % 20).toNat)) = _
    rw [show 19 - ((0 - 1 - (k : Int)) % 20).toNat = k by omega]
    exact ⟨rfl, rfl, rfl⟩
theorem exe_PW {P : PT} {w u : Nat → Int} {c : Int} {y : PAR} (h : PW P w) (hc : 1 ≤ c ∧ c ≤ 7) (hy : PRG c (w 0) y) (he : exe c y w = some u) : WI u := by
  rw [PW_n h] at hy
  by_cases c3 : c = 3
  · subst c3
    obtain ⟨v, h1, h2⟩ := EX_all (y := y) h
    rw [h1] at he
    cases he
    exact h2.2.1
  by_cases c1 : c = 1
  · subst c1
    by_cases hn : Pn P < 6
    · obtain ⟨v, h1, h2⟩ := EX_new h hn hy
      rw [h1] at he
      cases he
      exact h2.2.1
    · have := h.1.1.2
      rw [EX_full h (by omega)] at he
      cases he
  have hc5 : c = 2 ∨ c = 4 ∨ c = 5 ∨ c = 6 ∨ c = 7 := by omega
  have hi := hy.2.1 c1 c3
  by_cases hp : PSB c (PL P y.1.toNat) y.2.1
  · obtain ⟨v, h1, h2⟩ := EX_chg (Q := if c = 2 then plPay P y.1 else if c = 4 then plRed P y.1 y.2.1 y.2.2.2.1 else if c = 5 then plL P y.1.toNat (defL (PL P y.1.toNat)) else if c = 6 then plL P y.1.toNat (setL (PL P y.1.toNat) y.2.1 (PL P y.1.toNat 3)) else plL P y.1.toNat (setL (PL P y.1.toNat) (PL P y.1.toNat 2) (PL P y.1.toNat 3 + y.2.1))) h hc5 hy rfl (fun _ => rfl) (fun _ => rfl) hp
      ⟨fun q => by rw [if_pos q], fun q => by rw [if_neg (by omega), if_pos q], fun q => by rw [if_neg (by omega), if_neg (by omega), if_pos q], fun q => by rw [if_neg (by omega), if_neg (by omega), if_neg (by omega), if_pos q], fun q => by rw [if_neg (by omega), if_neg (by omega), if_neg (by omega), if_neg (by omega)]⟩
    rw [h1] at he
    cases he
    exact h2.2.1
  · rw [EX_no h hc5 (by omega) (fun _ => rfl) hp] at he
    cases he
theorem ONE_WI {T : Nat → Int} {n c p na ek eo : Int} {w u : Nat → Int} (hW : WI w) (hc : 1 ≤ c ∧ c ≤ 7) (hp : p ≤ n) (h : ONE T n c w p u na ek eo) : WI u := by
  obtain ⟨P, hP⟩ := PW_x hW
  rcases h with ⟨y, h1, ⟨h2, -⟩ | ⟨-, h2, -⟩⟩ | ⟨-, -, h2⟩
  · exact exe_PW hP hc (prm_r hc hp h1).2 h2
  · rw [h2]; exact hW
  · rw [h2]; exact hW
theorem RNO_i {N : Nat → Int} {n a g e k : Int} (h20 : N 20 = a) (h22 : N 22 = k) (h23 : N 23 = g) (h24 : N 24 = e) (r : (0 ≤ a ∧ a ≤ n) ∧ (0 ≤ g ∧ g ≤ 9999999) ∧ (0 ≤ e ∧ e ≤ 9) ∧ 0 ≤ k ∧ k ≤ 6) : (0 ≤ N 20 ∧ N 20 ≤ n) ∧ (0 ≤ N 23 ∧ N 23 ≤ 9999999) ∧ (0 ≤ N 24 ∧ N 24 ≤ 9) ∧ 0 ≤ N 22 ∧ N 22 ≤ 6 := by
  rw [h20, h22, h23, h24]; exact r
theorem NUR_0 {T : Nat → Int} {n a b k g e o na nb nk ng ek eo lo hi r : Int} (he : e = 0) (h : NUR T n a b k g e o na nb nk ng ek eo lo hi r) : NUR T n a b k g 0 o na nb nk ng ek eo lo hi r := by subst he; exact h
theorem ENR_0 {k b e o x ek eo z : Int} (he : e = 0) (h : ENR k b e o x ek eo z) : ENR k b 0 o x ek eo z := by subst he; exact h
