/-! the text -/
def sB (T : Nat → Int) : Nat → Int := fun j => if T j < 128 then T j else T j - 256
theorem sB_u {T : Nat → Int} {k : Nat} {v b : Int} (h : b = if v < 128 then v else v - 256) : uI (sB T) k b = sB (uI T k v) := by
  funext j
  unfold sB uI
  by_cases e : j = k
  · rw [if_pos e, if_pos e, h]
  · rw [if_neg e, if_neg e]
/-- four bytes of a number, the first one the greatest -/
def ty4 (T : Nat → Int) (n x : Int) : Nat → Int := uI (uI (uI (uI T n.toNat (x / 16777216 % 256)) (n + 1).toNat (x / 65536 % 256)) (n + 2).toNat (x / 256 % 256)) (n + 3).toNat (x % 256)
theorem bI_s {z : Int} : bI z = if z % 256 < 128 then z % 256 else z % 256 - 256 := by
  unfold bI
  by_cases h : z % 256 < 128
  · rw [if_pos h]; omega
  · rw [if_neg h]; omega
theorem ty4_b {T : Nat → Int} {n x : Int} (h : 0 ≤ n) (hx : i32 x) : sB (ty4 T n x) = uI (uI (uI (uI (sB T) n.toNat (bI (x / 2 ^ 24))) (n + 1).toNat (bI (x / 2 ^ 16))) (n + 1 + 1).toNat (bI (x / 2 ^ 8))) (n + 1 + 1 + 1).toNat (bI (x / 2 ^ 0)) := by
  unfold ty4
  rw [show n + 1 + 1 = n + 2 by omega, show n + 2 + 1 = n + 3 by omega, show x / 16777216 = x / 2 ^ 24 by omega, show x / 65536 = x / 2 ^ 16 by omega, show x / 256 = x / 2 ^ 8 by omega, show x % 256 = x / 2 ^ 0 % 256 by omega, sB_u bI_s, sB_u bI_s, sB_u bI_s, sB_u bI_s]
/-- twenty bytes -/
def ap5 (T : Nat → Int) (n a b c d e : Int) : Nat → Int := ty4 (ty4 (ty4 (ty4 (ty4 T n a) (n + 4) b) (n + 8) c) (n + 12) d) (n + 16) e
theorem ap5_e {T : Nat → Int} {n a b c d e : Int} : ty4 (ty4 (ty4 (ty4 (ty4 T n a) (n + 4) b) (n + 4 + 4) c) (n + 4 + 4 + 4) d) (n + 4 + 4 + 4 + 4) e = ap5 T n a b c d e := by
  unfold ap5
  rw [show n + 4 + 4 = n + 8 by omega, show n + 8 + 4 = n + 12 by omega, show n + 12 + 4 = n + 16 by omega]
