/-! the report: numbers in digits, and the list of what is written -/
def wrL : (Nat → Int) → Int → List Int → (Nat → Int)
  | B, _, [] => B
  | B, n, c :: l => wrL (uI B n.toNat c) (n + 1) l
theorem wrL_app : ∀ (l m : List Int) (B : Nat → Int) (n : Int), wrL B n (l ++ m) = wrL (wrL B n l) (n + l.length) m
  | [], m, B, n => by show wrL B n m = wrL B (n + 0) m; rw [Int.add_zero]
  | c :: l, m, B, n => by
    show wrL (uI B n.toNat c) (n + 1) (l ++ m) = wrL (wrL (uI B n.toNat c) (n + 1) l) (n + ((l.length + 1 : Nat) : Int)) m
    rw [wrL_app l m, show n + 1 + (l.length : Int) = n + ((l.length + 1 : Nat) : Int) by omega]
theorem wrL_lo : ∀ (l : List Int) (B : Nat → Int) (n : Int) (j : Nat), (j : Int) < n → wrL B n l j = B j
  | [], _, _, _, _ => rfl
  | c :: l, B, n, j, h => by
    show wrL (uI B n.toNat c) (n + 1) l j = B j
    rw [wrL_lo l _ _ _ (by omega), uI_n (by omega)]
theorem wrL_at : ∀ (l : List Int) (B : Nat → Int) (n : Int) (j : Nat), 0 ≤ n → j < l.length → wrL B n l (n.toNat + j) = l.getD j 0
  | c :: l, B, n, 0, hn, _ => by
    show wrL (uI B n.toNat c) (n + 1) l (n.toNat + 0) = c
    rw [wrL_lo l _ _ _ (by omega), Nat.add_zero, uI_s]
  | c :: l, B, n, j + 1, hn, h => by
    show wrL (uI B n.toNat c) (n + 1) l (n.toNat + (j + 1)) = l.getD j 0
    rw [show n.toNat + (j + 1) = (n + 1).toNat + j by omega]
    exact wrL_at l _ _ _ (by omega) (by simpa using h)
/-- digits from a unit on -/
def dgU (v : Int) : Nat → Int → List Int
  | 0, _ => []
  | k + 1, u => (48 + v / u % 10) :: dgU v k (u / 10)
theorem dgU_len (v : Int) : ∀ (k : Nat) (u : Int), (dgU v k u).length = k
  | 0, _ => rfl
  | k + 1, u => by show (dgU v k (u / 10)).length + 1 = k + 1; rw [dgU_len v k]
/-- u is the n-th unit; 0 is the unit behind the last one -/
def UN (u n : Int) : Prop := (n = 0 ∧ u = 0) ∨ (n = 1 ∧ u = 1) ∨ (n = 2 ∧ u = 10) ∨ (n = 3 ∧ u = 100) ∨ (n = 4 ∧ u = 1000) ∨ (n = 5 ∧ u = 10000) ∨ (n = 6 ∧ u = 100000) ∨ (n = 7 ∧ u = 1000000) ∨ (n = 8 ∧ u = 10000000)
def dgN (v : Int) : Int := if v < 10 then 1 else if v < 100 then 2 else if v < 1000 then 3 else if v < 10000 then 4 else if v < 100000 then 5 else if v < 1000000 then 6 else if v < 10000000 then 7 else 8
def dgT (n : Int) : Int := if n ≤ 1 then 1 else if n = 2 then 10 else if n = 3 then 100 else if n = 4 then 1000 else if n = 5 then 10000 else if n = 6 then 100000 else if n = 7 then 1000000 else 10000000
def dgs (v : Int) : List Int := dgU v (dgN v).toNat (dgT (dgN v))
theorem dgN_r (v : Int) : 1 ≤ dgN v ∧ dgN v ≤ 8 := by
  unfold dgN
  repeat' split
  all_goals decide
theorem dgs_len (v : Int) : ((dgs v).length : Int) = dgN v := by
  have := dgN_r v
  unfold dgs
  rw [dgU_len]
  omega
theorem dgs_u {v u n : Int} (h0 : 0 ≤ v) (h1 : v ≤ 99999999) (hu : UN u n) (hn : 1 ≤ n) (hl : u = 1 ∨ u ≤ v) (hr : v / 10 < u) : dgU v n.toNat u = dgs v := by
  have key : ∀ k t : Int, dgN v = k → dgT k = t → dgU v k.toNat t = dgs v := by
    intro k t e1 e2
    unfold dgs
    rw [e1, e2]
  unfold UN at hu
  rcases hu with ⟨rfl, rfl⟩ | ⟨rfl, rfl⟩ | ⟨rfl, rfl⟩ | ⟨rfl, rfl⟩ | ⟨rfl, rfl⟩ | ⟨rfl, rfl⟩ | ⟨rfl, rfl⟩ | ⟨rfl, rfl⟩ | ⟨rfl, rfl⟩
  · omega
  · exact key 1 1 (by unfold dgN; rw [if_pos (by omega)]) rfl
  · exact key 2 10 (by unfold dgN; rw [if_neg (by omega), if_pos (by omega)]) rfl
  · exact key 3 100 (by unfold dgN; rw [if_neg (by omega), if_neg (by omega), if_pos (by omega)]) rfl
  · exact key 4 1000 (by unfold dgN; rw [if_neg (by omega), if_neg (by omega), if_neg (by omega), if_pos (by omega)]) rfl
  · exact key 5 10000 (by unfold dgN; rw [if_neg (by omega), if_neg (by omega), if_neg (by omega), if_neg (by omega), if_pos (by omega)]) rfl
  · exact key 6 100000 (by unfold dgN; rw [if_neg (by omega), if_neg (by omega), if_neg (by omega), if_neg (by omega), if_neg (by omega), if_pos (by omega)]) rfl
  · exact key 7 1000000 (by unfold dgN; rw [if_neg (by omega), if_neg (by omega), if_neg (by omega), if_neg (by omega), if_neg (by omega), if_neg (by omega), if_pos (by omega)]) rfl
  · exact key 8 10000000 (by unfold dgN; rw [if_neg (by omega), if_neg (by omega), if_neg (by omega), if_neg (by omega), if_neg (by omega), if_neg (by omega), if_neg (by omega)]) rfl
theorem UN_0 : UN 0 0 := Or.inl ⟨rfl, rfl⟩
theorem UN_1 : UN 1 1 := Or.inr (Or.inl ⟨rfl, rfl⟩)
theorem UN_2 : UN 10 2 := Or.inr (Or.inr (Or.inl ⟨rfl, rfl⟩))
theorem UN_3 : UN 100 3 := Or.inr (Or.inr (Or.inr (Or.inl ⟨rfl, rfl⟩)))
theorem UN_4 : UN 1000 4 := Or.inr (Or.inr (Or.inr (Or.inr (Or.inl ⟨rfl, rfl⟩))))
theorem UN_5 : UN 10000 5 := Or.inr (Or.inr (Or.inr (Or.inr (Or.inr (Or.inl ⟨rfl, rfl⟩)))))
theorem UN_6 : UN 100000 6 := Or.inr (Or.inr (Or.inr (Or.inr (Or.inr (Or.inr (Or.inl ⟨rfl, rfl⟩))))))
theorem UN_7 : UN 1000000 7 := Or.inr (Or.inr (Or.inr (Or.inr (Or.inr (Or.inr (Or.inr (Or.inl ⟨rfl, rfl⟩)))))))
theorem UN_8 : UN 10000000 8 := Or.inr (Or.inr (Or.inr (Or.inr (Or.inr (Or.inr (Or.inr (Or.inr ⟨rfl, rfl⟩)))))))
theorem UN_e {u n u2 n2 : Int} (h : UN u n) (e1 : u2 = u) (e2 : n2 = n) : UN u2 n2 := by rw [e1, e2]; exact h
theorem UN_c {p : Int → Int → Prop} (h0 : p 0 0) (h1 : p 1 1) (h2 : p 10 2) (h3 : p 100 3) (h4 : p 1000 4) (h5 : p 10000 5) (h6 : p 100000 6) (h7 : p 1000000 7) (h8 : p 10000000 8) {u n : Int} (h : UN u n) : p u n := by
  unfold UN at h
  rcases h with ⟨rfl, rfl⟩ | ⟨rfl, rfl⟩ | ⟨rfl, rfl⟩ | ⟨rfl, rfl⟩ | ⟨rfl, rfl⟩ | ⟨rfl, rfl⟩ | ⟨rfl, rfl⟩ | ⟨rfl, rfl⟩ | ⟨rfl, rfl⟩
  · exact h0
  · exact h1
  · exact h2
  · exact h3
  · exact h4
  · exact h5
  · exact h6
  · exact h7
  · exact h8
theorem UN_s {u n : Int} (h : UN u n) : 0 < u → UN (u / 10) (n - 1) ∧ 1 ≤ n :=
  UN_c (p := fun u n => 0 < u → UN (u / 10) (n - 1) ∧ 1 ≤ n) (fun h => absurd h (by decide)) (fun _ => ⟨UN_e UN_0 (by omega) (by omega), by omega⟩) (fun _ => ⟨UN_e UN_1 (by omega) (by omega), by omega⟩) (fun _ => ⟨UN_e UN_2 (by omega) (by omega), by omega⟩) (fun _ => ⟨UN_e UN_3 (by omega) (by omega), by omega⟩) (fun _ => ⟨UN_e UN_4 (by omega) (by omega), by omega⟩) (fun _ => ⟨UN_e UN_5 (by omega) (by omega), by omega⟩) (fun _ => ⟨UN_e UN_6 (by omega) (by omega), by omega⟩) (fun _ => ⟨UN_e UN_7 (by omega) (by omega), by omega⟩) h
theorem UN_r {u n : Int} (h : UN u n) : 0 ≤ u ∧ u ≤ 10000000 ∧ 0 ≤ n ∧ n ≤ 8 ∧ (0 < u → 1 ≤ n) ∧ (u = 0 → n = 0) ∧ (1 ≤ n → 0 < u) :=
  UN_c (p := fun u n => 0 ≤ u ∧ u ≤ 10000000 ∧ 0 ≤ n ∧ n ≤ 8 ∧ (0 < u → 1 ≤ n) ∧ (u = 0 → n = 0) ∧ (1 ≤ n → 0 < u)) (by decide) (by decide) (by decide) (by decide) (by decide) (by decide) (by decide) (by decide) (by decide) h
theorem UN_up {u n v : Int} (h : UN u n) : 0 < u → v ≤ 99999999 → u ≤ v / 10 → UN (u * 10) (n + 1) :=
  UN_c (p := fun u n => 0 < u → v ≤ 99999999 → u ≤ v / 10 → UN (u * 10) (n + 1)) (fun h => absurd h (by decide)) (fun _ _ _ => UN_e UN_2 (by omega) (by omega)) (fun _ _ _ => UN_e UN_3 (by omega) (by omega)) (fun _ _ _ => UN_e UN_4 (by omega) (by omega)) (fun _ _ _ => UN_e UN_5 (by omega) (by omega)) (fun _ _ _ => UN_e UN_6 (by omega) (by omega)) (fun _ _ _ => UN_e UN_7 (by omega) (by omega)) (fun _ _ _ => UN_e UN_8 (by omega) (by omega)) (fun _ h1 h2 => absurd h2 (by omega)) h
theorem UN_div {u n v : Int} (h : UN u n) : 0 < u → 0 ≤ v → (9 < v / u ↔ u ≤ v / 10) :=
  UN_c (p := fun u n => 0 < u → 0 ≤ v → (9 < v / u ↔ u ≤ v / 10)) (fun h => absurd h (by decide)) (fun _ _ => by omega) (fun _ _ => by omega) (fun _ _ => by omega) (fun _ _ => by omega) (fun _ _ => by omega) (fun _ _ => by omega) (fun _ _ => by omega) (fun _ _ => by omega) h
/-- a payment -/
def pmL (a it : Int) (cl : Prop) [Decidable cl] : List Int := dgs a ++ ((if it ≠ 0 then 43 :: dgs it else []) ++ (if cl then [33] else []))
def schL : Nat → Int → (Nat → Int) → List Int
  | 0, _, _ => []
  | k + 1, ix, L => if 0 < L 1 then (if 0 < ix then [32] else []) ++ (pmL (dueL L) (fI (L 1) (L 2) (L 5)) (payL L 1 ≤ 0) ++ schL k (ix + 1) (payL L)) else []
theorem schL_s {k : Nat} {ix : Int} {L : Nat → Int} (h : 0 < L 1) : schL (k + 1) ix L = (if 0 < ix then [32] else []) ++ (pmL (dueL L) (fI (L 1) (L 2) (L 5)) (payL L 1 ≤ 0) ++ schL k (ix + 1) (payL L)) := if_pos h
theorem schL_e {k : Nat} {ix : Int} {L : Nat → Int} (h : L 1 ≤ 0) : schL k ix L = [] := by
  cases k with
  | zero => rfl
  | succ k => exact if_neg (by omega)
theorem pmL_len (a it : Int) (cl : Prop) [Decidable cl] : ((pmL a it cl).length : Int) ≤ 18 := by
  have h1 := dgs_len a
  have h2 := dgs_len it
  have h3 := dgN_r a
  have h4 := dgN_r it
  unfold pmL
  rw [List.length_append, List.length_append]
  by_cases c1 : it ≠ 0 <;> by_cases c2 : cl
  · rw [if_pos c1, if_pos c2]; simp only [List.length_cons, List.length_nil]; omega
  · rw [if_pos c1, if_neg c2]; simp only [List.length_cons, List.length_nil]; omega
  · rw [if_neg c1, if_pos c2]; simp only [List.length_cons, List.length_nil]; omega
  · rw [if_neg c1, if_neg c2]; simp only [List.length_nil]; omega
def repL (L : Nat → Int) : List Int := if 0 < L 1 then schL 12 0 L else [45]
