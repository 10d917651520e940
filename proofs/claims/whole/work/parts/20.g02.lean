-- X1_readItem
def L_X1_readItem_21 (o : Nat) (a1 : Nat) : Nat → Int32 → Int32 → Int32 → Int32 → fsS → Option (Nat × Int32)
  | 0, _, _, _, _, _ => none
  | n0 + 1, y2, y3, y4, y5, σ => if (y3 + (5 : Int32)) ≤ y5 then some (2, (0 : Int32)) else if y5 < y2 then fs_g (fs_in y5 (fs_len a1)) (if (σ a1 y5.toNatClampNeg) < (48 : Int32) then some (1, y5) else fs_g (fs_in y5 (fs_len a1)) (if (σ a1 y5.toNatClampNeg) ≤ (57 : Int32) then L_X1_readItem_21 o a1 n0 y2 y3 y4 (y5 + (1 : Int32)) σ else some (1, y5))) else some (0, (0 : Int32))
def F_X1_readItem (o : Nat) (a1 : Nat) (x2 : Int32) (x3 : Int32) (σ : fsS) : Option (Int32 × fsS) := fs_g (fs_in x3 (fs_len a1)) (if (F_X1_kindByLetter (σ a1 x3.toNatClampNeg)) = (-1 : Int32) then some (x3, σ) else (L_X1_readItem_21 o a1 fs_fu x2 x3 (F_X1_kindByLetter (σ a1 x3.toNatClampNeg)) (x3 + (1 : Int32)) σ).bind (fun q9 => if q9.1 = 0 then some (x2, σ) else if q9.1 = 1 then some (q9.2, σ) else fs_g (fs_in (σ o 0) 6) (fs_g (fs_in (x3 + (1 : Int32)) (fs_len a1)) (fs_g (fs_in ((fs_u σ (7 * o - 14 + 0) (σ o 0).toNatClampNeg (F_X1_kindByLetter (σ a1 x3.toNatClampNeg))) o 0) 6) (fs_g (fs_in (x3 + (2 : Int32)) (fs_len a1)) (fs_g (fs_in ((fs_u (fs_u σ (7 * o - 14 + 0) (σ o 0).toNatClampNeg (F_X1_kindByLetter (σ a1 x3.toNatClampNeg))) (7 * o - 14 + 1) ((fs_u σ (7 * o - 14 + 0) (σ o 0).toNatClampNeg (F_X1_kindByLetter (σ a1 x3.toNatClampNeg))) o 0).toNatClampNeg (((fs_u σ (7 * o - 14 + 0) (σ o 0).toNatClampNeg (F_X1_kindByLetter (σ a1 x3.toNatClampNeg))) a1 (x3 + (1 : Int32)).toNatClampNeg) - (48 : Int32))) o 0) 6) (fs_g (fs_in (x3 + (3 : Int32)) (fs_len a1)) (fs_g (fs_in (x3 + (4 : Int32)) (fs_len a1)) (fs_g (fs_in ((fs_u (fs_u (fs_u σ (7 * o - 14 + 0) (σ o 0).toNatClampNeg (F_X1_kindByLetter (σ a1 x3.toNatClampNeg))) (7 * o - 14 + 1) ((fs_u σ (7 * o - 14 + 0) (σ o 0).toNatClampNeg (F_X1_kindByLetter (σ a1 x3.toNatClampNeg))) o 0).toNatClampNeg (((fs_u σ (7 * o - 14 + 0) (σ o 0).toNatClampNeg (F_X1_kindByLetter (σ a1 x3.toNatClampNeg))) a1 (x3 + (1 : Int32)).toNatClampNeg) - (48 : Int32))) (7 * o - 14 + 2) ((fs_u (fs_u σ (7 * o - 14 + 0) (σ o 0).toNatClampNeg (F_X1_kindByLetter (σ a1 x3.toNatClampNeg))) (7 * o - 14 + 1) ((fs_u σ (7 * o - 14 + 0) (σ o 0).toNatClampNeg (F_X1_kindByLetter (σ a1 x3.toNatClampNeg))) o 0).toNatClampNeg (((fs_u σ (7 * o - 14 + 0) (σ o 0).toNatClampNeg (F_X1_kindByLetter (σ a1 x3.toNatClampNeg))) a1 (x3 + (1 : Int32)).toNatClampNeg) - (48 : Int32))) o 0).toNatClampNeg (((fs_u (fs_u σ (7 * o - 14 + 0) (σ o 0).toNatClampNeg (F_X1_kindByLetter (σ a1 x3.toNatClampNeg))) (7 * o - 14 + 1) ((fs_u σ (7 * o - 14 + 0) (σ o 0).toNatClampNeg (F_X1_kindByLetter (σ a1 x3.toNatClampNeg))) o 0).toNatClampNeg (((fs_u σ (7 * o - 14 + 0) (σ o 0).toNatClampNeg (F_X1_kindByLetter (σ a1 x3.toNatClampNeg))) a1 (x3 + (1 : Int32)).toNatClampNeg) - (48 : Int32))) a1 (x3 + (2 : Int32)).toNatClampNeg) - (48 : Int32))) o 0) 6) (fs_g (fs_in ((fs_u (fs_u (fs_u (fs_u σ (7 * o - 14 + 0) (σ o 0).toNatClampNeg (F_X1_kindByLetter (σ a1 x3.toNatClampNeg))) (7 * o - 14 + 1) ((fs_u σ (7 * o - 14 + 0) (σ o 0).toNatClampNeg (F_X1_kindByLetter (σ a1 x3.toNatClampNeg))) o 0).toNatClampNeg (((fs_u σ (7 * o - 14 + 0) (σ o 0).toNatClampNeg (F_X1_kindByLetter (σ a1 x3.toNatClampNeg))) a1 (x3 + (1 : Int32)).toNatClampNeg) - (48 : Int32))) (7 * o - 14 + 2) ((fs_u (fs_u σ (7 * o - 14 + 0) (σ o 0).toNatClampNeg (F_X1_kindByLetter (σ a1 x3.toNatClampNeg))) (7 * o - 14 + 1) ((fs_u σ (7 * o - 14 + 0) (σ o 0).toNatClampNeg (F_X1_kindByLetter (σ a1 x3.toNatClampNeg))) o 0).toNatClampNeg (((fs_u σ (7 * o - 14 + 0) (σ o 0).toNatClampNeg (F_X1_kindByLetter (σ a1 x3.toNatClampNeg))) a1 (x3 + (1 : Int32)).toNatClampNeg) - (48 : Int32))) o 0).toNatClampNeg (((fs_u (fs_u σ (7 * o - 14 + 0) (σ o 0).toNatClampNeg (F_X1_kindByLetter (σ a1 x3.toNatClampNeg))) (7 * o - 14 + 1) ((fs_u σ (7 * o - 14 + 0) (σ o 0).toNatClampNeg (F_X1_kindByLetter (σ a1 x3.toNatClampNeg))) o 0).toNatClampNeg (((fs_u σ (7 * o - 14 + 0) (σ o 0).toNatClampNeg (F_X1_kindByLetter (σ a1 x3.toNatClampNeg))) a1 (x3 + (1 : Int32)).toNatClampNeg) - (48 : Int32))) a1 (x3 + (2 : Int32)).toNatClampNeg) - (48 : Int32))) (7 * o - 14 + 3) ((fs_u (fs_u (fs_u σ (7 * o - 14 + 0) (σ o 0).toNatClampNeg (F_X1_kindByLetter (σ a1 x3.toNatClampNeg))) (7 * o - 14 + 1) ((fs_u σ (7 * o - 14 + 0) (σ o 0).toNatClampNeg (F_X1_kindByLetter (σ a1 x3.toNatClampNeg))) o 0).toNatClampNeg (((fs_u σ (7 * o - 14 + 0) (σ o 0).toNatClampNeg (F_X1_kindByLetter (σ a1 x3.toNatClampNeg))) a1 (x3 + (1 : Int32)).toNatClampNeg) - (48 : Int32))) (7 * o - 14 + 2) ((fs_u (fs_u σ (7 * o - 14 + 0) (σ o 0).toNatClampNeg (F_X1_kindByLetter (σ a1 x3.toNatClampNeg))) (7 * o - 14 + 1) ((fs_u σ (7 * o - 14 + 0) (σ o 0).toNatClampNeg (F_X1_kindByLetter (σ a1 x3.toNatClampNeg))) o 0).toNatClampNeg (((fs_u σ (7 * o - 14 + 0) (σ o 0).toNatClampNeg (F_X1_kindByLetter (σ a1 x3.toNatClampNeg))) a1 (x3 + (1 : Int32)).toNatClampNeg) - (48 : Int32))) o 0).toNatClampNeg (((fs_u (fs_u σ (7 * o - 14 + 0) (σ o 0).toNatClampNeg (F_X1_kindByLetter (σ a1 x3.toNatClampNeg))) (7 * o - 14 + 1) ((fs_u σ (7 * o - 14 + 0) (σ o 0).toNatClampNeg (F_X1_kindByLetter (σ a1 x3.toNatClampNeg))) o 0).toNatClampNeg (((fs_u σ (7 * o - 14 + 0) (σ o 0).toNatClampNeg (F_X1_kindByLetter (σ a1 x3.toNatClampNeg))) a1 (x3 + (1 : Int32)).toNatClampNeg) - (48 : Int32))) a1 (x3 + (2 : Int32)).toNatClampNeg) - (48 : Int32))) o 0).toNatClampNeg ((((10 : Int32) * (((fs_u (fs_u (fs_u σ (7 * o - 14 + 0) (σ o 0).toNatClampNeg (F_X1_kindByLetter (σ a1 x3.toNatClampNeg))) (7 * o - 14 + 1) ((fs_u σ (7 * o - 14 + 0) (σ o 0).toNatClampNeg (F_X1_kindByLetter (σ a1 x3.toNatClampNeg))) o 0).toNatClampNeg (((fs_u σ (7 * o - 14 + 0) (σ o 0).toNatClampNeg (F_X1_kindByLetter (σ a1 x3.toNatClampNeg))) a1 (x3 + (1 : Int32)).toNatClampNeg) - (48 : Int32))) (7 * o - 14 + 2) ((fs_u (fs_u σ (7 * o - 14 + 0) (σ o 0).toNatClampNeg (F_X1_kindByLetter (σ a1 x3.toNatClampNeg))) (7 * o - 14 + 1) ((fs_u σ (7 * o - 14 + 0) (σ o 0).toNatClampNeg (F_X1_kindByLetter (σ a1 x3.toNatClampNeg))) o 0).toNatClampNeg (((fs_u σ (7 * o - 14 + 0) (σ o 0).toNatClampNeg (F_X1_kindByLetter (σ a1 x3.toNatClampNeg))) a1 (x3 + (1 : Int32)).toNatClampNeg) - (48 : Int32))) o 0).toNatClampNeg (((fs_u (fs_u σ (7 * o - 14 + 0) (σ o 0).toNatClampNeg (F_X1_kindByLetter (σ a1 x3.toNatClampNeg))) (7 * o - 14 + 1) ((fs_u σ (7 * o - 14 + 0) (σ o 0).toNatClampNeg (F_X1_kindByLetter (σ a1 x3.toNatClampNeg))) o 0).toNatClampNeg (((fs_u σ (7 * o - 14 + 0) (σ o 0).toNatClampNeg (F_X1_kindByLetter (σ a1 x3.toNatClampNeg))) a1 (x3 + (1 : Int32)).toNatClampNeg) - (48 : Int32))) a1 (x3 + (2 : Int32)).toNatClampNeg) - (48 : Int32))) a1 (x3 + (3 : Int32)).toNatClampNeg) - (48 : Int32))) + ((fs_u (fs_u (fs_u σ (7 * o - 14 + 0) (σ o 0).toNatClampNeg (F_X1_kindByLetter (σ a1 x3.toNatClampNeg))) (7 * o - 14 + 1) ((fs_u σ (7 * o - 14 + 0) (σ o 0).toNatClampNeg (F_X1_kindByLetter (σ a1 x3.toNatClampNeg))) o 0).toNatClampNeg (((fs_u σ (7 * o - 14 + 0) (σ o 0).toNatClampNeg (F_X1_kindByLetter (σ a1 x3.toNatClampNeg))) a1 (x3 + (1 : Int32)).toNatClampNeg) - (48 : Int32))) (7 * o - 14 + 2) ((fs_u (fs_u σ (7 * o - 14 + 0) (σ o 0).toNatClampNeg (F_X1_kindByLetter (σ a1 x3.toNatClampNeg))) (7 * o - 14 + 1) ((fs_u σ (7 * o - 14 + 0) (σ o 0).toNatClampNeg (F_X1_kindByLetter (σ a1 x3.toNatClampNeg))) o 0).toNatClampNeg (((fs_u σ (7 * o - 14 + 0) (σ o 0).toNatClampNeg (F_X1_kindByLetter (σ a1 x3.toNatClampNeg))) a1 (x3 + (1 : Int32)).toNatClampNeg) - (48 : Int32))) o 0).toNatClampNeg (((fs_u (fs_u σ (7 * o - 14 + 0) (σ o 0).toNatClampNeg (F_X1_kindByLetter (σ a1 x3.toNatClampNeg))) (7 * o - 14 + 1) ((fs_u σ (7 * o - 14 + 0) (σ o 0).toNatClampNeg (F_X1_kindByLetter (σ a1 x3.toNatClampNeg))) o 0).toNatClampNeg (((fs_u σ (7 * o - 14 + 0) (σ o 0).toNatClampNeg (F_X1_kindByLetter (σ a1 x3.toNatClampNeg))) a1 (x3 + (1 : Int32)).toNatClampNeg) - (48 : Int32))) a1 (x3 + (2 : Int32)).toNatClampNeg) - (48 : Int32))) a1 (x3 + (4 : Int32)).toNatClampNeg)) - (48 : Int32))) o 0) 6) (some ((-9 : Int32), (fs_u (fs_u (fs_u (fs_u (fs_u (fs_u σ (7 * o - 14 + 0) (σ o 0).toNatClampNeg (F_X1_kindByLetter (σ a1 x3.toNatClampNeg))) (7 * o - 14 + 1) ((fs_u σ (7 * o - 14 + 0) (σ o 0).toNatClampNeg (F_X1_kindByLetter (σ a1 x3.toNatClampNeg))) o 0).toNatClampNeg (((fs_u σ (7 * o - 14 + 0) (σ o 0).toNatClampNeg (F_X1_kindByLetter (σ a1 x3.toNatClampNeg))) a1 (x3 + (1 : Int32)).toNatClampNeg) - (48 : Int32))) (7 * o - 14 + 2) ((fs_u (fs_u σ (7 * o - 14 + 0) (σ o 0).toNatClampNeg (F_X1_kindByLetter (σ a1 x3.toNatClampNeg))) (7 * o - 14 + 1) ((fs_u σ (7 * o - 14 + 0) (σ o 0).toNatClampNeg (F_X1_kindByLetter (σ a1 x3.toNatClampNeg))) o 0).toNatClampNeg (((fs_u σ (7 * o - 14 + 0) (σ o 0).toNatClampNeg (F_X1_kindByLetter (σ a1 x3.toNatClampNeg))) a1 (x3 + (1 : Int32)).toNatClampNeg) - (48 : Int32))) o 0).toNatClampNeg (((fs_u (fs_u σ (7 * o - 14 + 0) (σ o 0).toNatClampNeg (F_X1_kindByLetter (σ a1 x3.toNatClampNeg))) (7 * o - 14 + 1) ((fs_u σ (7 * o - 14 + 0) (σ o 0).toNatClampNeg (F_X1_kindByLetter (σ a1 x3.toNatClampNeg))) o 0).toNatClampNeg (((fs_u σ (7 * o - 14 + 0) (σ o 0).toNatClampNeg (F_X1_kindByLetter (σ a1 x3.toNatClampNeg))) a1 (x3 + (1 : Int32)).toNatClampNeg) - (48 : Int32))) a1 (x3 + (2 : Int32)).toNatClampNeg) - (48 : Int32))) (7 * o - 14 + 3) ((fs_u (fs_u (fs_u σ (7 * o - 14 + 0) (σ o 0).toNatClampNeg (F_X1_kindByLetter (σ a1 x3.toNatClampNeg))) (7 * o - 14 + 1) ((fs_u σ (7 * o - 14 + 0) (σ o 0).toNatClampNeg (F_X1_kindByLetter (σ a1 x3.toNatClampNeg))) o 0).toNatClampNeg (((fs_u σ (7 * o - 14 + 0) (σ o 0).toNatClampNeg (F_X1_kindByLetter (σ a1 x3.toNatClampNeg))) a1 (x3 + (1 : Int32)).toNatClampNeg) - (48 : Int32))) (7 * o - 14 + 2) ((fs_u (fs_u σ (7 * o - 14 + 0) (σ o 0).toNatClampNeg (F_X1_kindByLetter (σ a1 x3.toNatClampNeg))) (7 * o - 14 + 1) ((fs_u σ (7 * o - 14 + 0) (σ o 0).toNatClampNeg (F_X1_kindByLetter (σ a1 x3.toNatClampNeg))) o 0).toNatClampNeg (((fs_u σ (7 * o - 14 + 0) (σ o 0).toNatClampNeg (F_X1_kindByLetter (σ a1 x3.toNatClampNeg))) a1 (x3 + (1 : Int32)).toNatClampNeg) - (48 : Int32))) o 0).toNatClampNeg (((fs_u (fs_u σ (7 * o - 14 + 0) (σ o 0).toNatClampNeg (F_X1_kindByLetter (σ a1 x3.toNatClampNeg))) (7 * o - 14 + 1) ((fs_u σ (7 * o - 14 + 0) (σ o 0).toNatClampNeg (F_X1_kindByLetter (σ a1 x3.toNatClampNeg))) o 0).toNatClampNeg (((fs_u σ (7 * o - 14 + 0) (σ o 0).toNatClampNeg (F_X1_kindByLetter (σ a1 x3.toNatClampNeg))) a1 (x3 + (1 : Int32)).toNatClampNeg) - (48 : Int32))) a1 (x3 + (2 : Int32)).toNatClampNeg) - (48 : Int32))) o 0).toNatClampNeg ((((10 : Int32) * (((fs_u (fs_u (fs_u σ (7 * o - 14 + 0) (σ o 0).toNatClampNeg (F_X1_kindByLetter (σ a1 x3.toNatClampNeg))) (7 * o - 14 + 1) ((fs_u σ (7 * o - 14 + 0) (σ o 0).toNatClampNeg (F_X1_kindByLetter (σ a1 x3.toNatClampNeg))) o 0).toNatClampNeg (((fs_u σ (7 * o - 14 + 0) (σ o 0).toNatClampNeg (F_X1_kindByLetter (σ a1 x3.toNatClampNeg))) a1 (x3 + (1 : Int32)).toNatClampNeg) - (48 : Int32))) (7 * o - 14 + 2) ((fs_u (fs_u σ (7 * o - 14 + 0) (σ o 0).toNatClampNeg (F_X1_kindByLetter (σ a1 x3.toNatClampNeg))) (7 * o - 14 + 1) ((fs_u σ (7 * o - 14 + 0) (σ o 0).toNatClampNeg (F_X1_kindByLetter (σ a1 x3.toNatClampNeg))) o 0).toNatClampNeg (((fs_u σ (7 * o - 14 + 0) (σ o 0).toNatClampNeg (F_X1_kindByLetter (σ a1 x3.toNatClampNeg))) a1 (x3 + (1 : Int32)).toNatClampNeg) - (48 : Int32))) o 0).toNatClampNeg (((fs_u (fs_u σ (7 * o - 14 + 0) (σ o 0).toNatClampNeg (F_X1_kindByLetter (σ a1 x3.toNatClampNeg))) (7 * o - 14 + 1) ((fs_u σ (7 * o - 14 + 0) (σ o 0).toNatClampNeg (F_X1_kindByLetter (σ a1 x3.toNatClampNeg))) o 0).toNatClampNeg (((fs_u σ (7 * o - 14 + 0) (σ o 0).toNatClampNeg (F_X1_kindByLetter (σ a1 x3.toNatClampNeg))) a1 (x3 + (1 : Int32)).toNatClampNeg) - (48 : Int32))) a1 (x3 + (2 : Int32)).toNatClampNeg) - (48 : Int32))) a1 (x3 + (3 : Int32)).toNatClampNeg) - (48 : Int32))) + ((fs_u (fs_u (fs_u σ (7 * o - 14 + 0) (σ o 0).toNatClampNeg (F_X1_kindByLetter (σ a1 x3.toNatClampNeg))) (7 * o - 14 + 1) ((fs_u σ (7 * o - 14 + 0) (σ o 0).toNatClampNeg (F_X1_kindByLetter (σ a1 x3.toNatClampNeg))) o 0).toNatClampNeg (((fs_u σ (7 * o - 14 + 0) (σ o 0).toNatClampNeg (F_X1_kindByLetter (σ a1 x3.toNatClampNeg))) a1 (x3 + (1 : Int32)).toNatClampNeg) - (48 : Int32))) (7 * o - 14 + 2) ((fs_u (fs_u σ (7 * o - 14 + 0) (σ o 0).toNatClampNeg (F_X1_kindByLetter (σ a1 x3.toNatClampNeg))) (7 * o - 14 + 1) ((fs_u σ (7 * o - 14 + 0) (σ o 0).toNatClampNeg (F_X1_kindByLetter (σ a1 x3.toNatClampNeg))) o 0).toNatClampNeg (((fs_u σ (7 * o - 14 + 0) (σ o 0).toNatClampNeg (F_X1_kindByLetter (σ a1 x3.toNatClampNeg))) a1 (x3 + (1 : Int32)).toNatClampNeg) - (48 : Int32))) o 0).toNatClampNeg (((fs_u (fs_u σ (7 * o - 14 + 0) (σ o 0).toNatClampNeg (F_X1_kindByLetter (σ a1 x3.toNatClampNeg))) (7 * o - 14 + 1) ((fs_u σ (7 * o - 14 + 0) (σ o 0).toNatClampNeg (F_X1_kindByLetter (σ a1 x3.toNatClampNeg))) o 0).toNatClampNeg (((fs_u σ (7 * o - 14 + 0) (σ o 0).toNatClampNeg (F_X1_kindByLetter (σ a1 x3.toNatClampNeg))) a1 (x3 + (1 : Int32)).toNatClampNeg) - (48 : Int32))) a1 (x3 + (2 : Int32)).toNatClampNeg) - (48 : Int32))) a1 (x3 + (4 : Int32)).toNatClampNeg)) - (48 : Int32))) (7 * o - 14 + 4) ((fs_u (fs_u (fs_u (fs_u σ (7 * o - 14 + 0) (σ o 0).toNatClampNeg (F_X1_kindByLetter (σ a1 x3.toNatClampNeg))) (7 * o - 14 + 1) ((fs_u σ (7 * o - 14 + 0) (σ o 0).toNatClampNeg (F_X1_kindByLetter (σ a1 x3.toNatClampNeg))) o 0).toNatClampNeg (((fs_u σ (7 * o - 14 + 0) (σ o 0).toNatClampNeg (F_X1_kindByLetter (σ a1 x3.toNatClampNeg))) a1 (x3 + (1 : Int32)).toNatClampNeg) - (48 : Int32))) (7 * o - 14 + 2) ((fs_u (fs_u σ (7 * o - 14 + 0) (σ o 0).toNatClampNeg (F_X1_kindByLetter (σ a1 x3.toNatClampNeg))) (7 * o - 14 + 1) ((fs_u σ (7 * o - 14 + 0) (σ o 0).toNatClampNeg (F_X1_kindByLetter (σ a1 x3.toNatClampNeg))) o 0).toNatClampNeg (((fs_u σ (7 * o - 14 + 0) (σ o 0).toNatClampNeg (F_X1_kindByLetter (σ a1 x3.toNatClampNeg))) a1 (x3 + (1 : Int32)).toNatClampNeg) - (48 : Int32))) o 0).toNatClampNeg (((fs_u (fs_u σ (7 * o - 14 + 0) (σ o 0).toNatClampNeg (F_X1_kindByLetter (σ a1 x3.toNatClampNeg))) (7 * o - 14 + 1) ((fs_u σ (7 * o - 14 + 0) (σ o 0).toNatClampNeg (F_X1_kindByLetter (σ a1 x3.toNatClampNeg))) o 0).toNatClampNeg (((fs_u σ (7 * o - 14 + 0) (σ o 0).toNatClampNeg (F_X1_kindByLetter (σ a1 x3.toNatClampNeg))) a1 (x3 + (1 : Int32)).toNatClampNeg) - (48 : Int32))) a1 (x3 + (2 : Int32)).toNatClampNeg) - (48 : Int32))) (7 * o - 14 + 3) ((fs_u (fs_u (fs_u σ (7 * o - 14 + 0) (σ o 0).toNatClampNeg (F_X1_kindByLetter (σ a1 x3.toNatClampNeg))) (7 * o - 14 + 1) ((fs_u σ (7 * o - 14 + 0) (σ o 0).toNatClampNeg (F_X1_kindByLetter (σ a1 x3.toNatClampNeg))) o 0).toNatClampNeg (((fs_u σ (7 * o - 14 + 0) (σ o 0).toNatClampNeg (F_X1_kindByLetter (σ a1 x3.toNatClampNeg))) a1 (x3 + (1 : Int32)).toNatClampNeg) - (48 : Int32))) (7 * o - 14 + 2) ((fs_u (fs_u σ (7 * o - 14 + 0) (σ o 0).toNatClampNeg (F_X1_kindByLetter (σ a1 x3.toNatClampNeg))) (7 * o - 14 + 1) ((fs_u σ (7 * o - 14 + 0) (σ o 0).toNatClampNeg (F_X1_kindByLetter (σ a1 x3.toNatClampNeg))) o 0).toNatClampNeg (((fs_u σ (7 * o - 14 + 0) (σ o 0).toNatClampNeg (F_X1_kindByLetter (σ a1 x3.toNatClampNeg))) a1 (x3 + (1 : Int32)).toNatClampNeg) - (48 : Int32))) o 0).toNatClampNeg (((fs_u (fs_u σ (7 * o - 14 + 0) (σ o 0).toNatClampNeg (F_X1_kindByLetter (σ a1 x3.toNatClampNeg))) (7 * o - 14 + 1) ((fs_u σ (7 * o - 14 + 0) (σ o 0).toNatClampNeg (F_X1_kindByLetter (σ a1 x3.toNatClampNeg))) o 0).toNatClampNeg (((fs_u σ (7 * o - 14 + 0) (σ o 0).toNatClampNeg (F_X1_kindByLetter (σ a1 x3.toNatClampNeg))) a1 (x3 + (1 : Int32)).toNatClampNeg) - (48 : Int32))) a1 (x3 + (2 : Int32)).toNatClampNeg) - (48 : Int32))) o 0).toNatClampNeg ((((10 : Int32) * (((fs_u (fs_u (fs_u σ (7 * o - 14 + 0) (σ o 0).toNatClampNeg (F_X1_kindByLetter (σ a1 x3.toNatClampNeg))) (7 * o - 14 + 1) ((fs_u σ (7 * o - 14 + 0) (σ o 0).toNatClampNeg (F_X1_kindByLetter (σ a1 x3.toNatClampNeg))) o 0).toNatClampNeg (((fs_u σ (7 * o - 14 + 0) (σ o 0).toNatClampNeg (F_X1_kindByLetter (σ a1 x3.toNatClampNeg))) a1 (x3 + (1 : Int32)).toNatClampNeg) - (48 : Int32))) (7 * o - 14 + 2) ((fs_u (fs_u σ (7 * o - 14 + 0) (σ o 0).toNatClampNeg (F_X1_kindByLetter (σ a1 x3.toNatClampNeg))) (7 * o - 14 + 1) ((fs_u σ (7 * o - 14 + 0) (σ o 0).toNatClampNeg (F_X1_kindByLetter (σ a1 x3.toNatClampNeg))) o 0).toNatClampNeg (((fs_u σ (7 * o - 14 + 0) (σ o 0).toNatClampNeg (F_X1_kindByLetter (σ a1 x3.toNatClampNeg))) a1 (x3 + (1 : Int32)).toNatClampNeg) - (48 : Int32))) o 0).toNatClampNeg (((fs_u (fs_u σ (7 * o - 14 + 0) (σ o 0).toNatClampNeg (F_X1_kindByLetter (σ a1 x3.toNatClampNeg))) (7 * o - 14 + 1) ((fs_u σ (7 * o - 14 + 0) (σ o 0).toNatClampNeg (F_X1_kindByLetter (σ a1 x3.toNatClampNeg))) o 0).toNatClampNeg (((fs_u σ (7 * o - 14 + 0) (σ o 0).toNatClampNeg (F_X1_kindByLetter (σ a1 x3.toNatClampNeg))) a1 (x3 + (1 : Int32)).toNatClampNeg) - (48 : Int32))) a1 (x3 + (2 : Int32)).toNatClampNeg) - (48 : Int32))) a1 (x3 + (3 : Int32)).toNatClampNeg) - (48 : Int32))) + ((fs_u (fs_u (fs_u σ (7 * o - 14 + 0) (σ o 0).toNatClampNeg (F_X1_kindByLetter (σ a1 x3.toNatClampNeg))) (7 * o - 14 + 1) ((fs_u σ (7 * o - 14 + 0) (σ o 0).toNatClampNeg (F_X1_kindByLetter (σ a1 x3.toNatClampNeg))) o 0).toNatClampNeg (((fs_u σ (7 * o - 14 + 0) (σ o 0).toNatClampNeg (F_X1_kindByLetter (σ a1 x3.toNatClampNeg))) a1 (x3 + (1 : Int32)).toNatClampNeg) - (48 : Int32))) (7 * o - 14 + 2) ((fs_u (fs_u σ (7 * o - 14 + 0) (σ o 0).toNatClampNeg (F_X1_kindByLetter (σ a1 x3.toNatClampNeg))) (7 * o - 14 + 1) ((fs_u σ (7 * o - 14 + 0) (σ o 0).toNatClampNeg (F_X1_kindByLetter (σ a1 x3.toNatClampNeg))) o 0).toNatClampNeg (((fs_u σ (7 * o - 14 + 0) (σ o 0).toNatClampNeg (F_X1_kindByLetter (σ a1 x3.toNatClampNeg))) a1 (x3 + (1 : Int32)).toNatClampNeg) - (48 : Int32))) o 0).toNatClampNeg (((fs_u (fs_u σ (7 * o - 14 + 0) (σ o 0).toNatClampNeg (F_X1_kindByLetter (σ a1 x3.toNatClampNeg))) (7 * o - 14 + 1) ((fs_u σ (7 * o - 14 + 0) (σ o 0).toNatClampNeg (F_X1_kindByLetter (σ a1 x3.toNatClampNeg))) o 0).toNatClampNeg (((fs_u σ (7 * o - 14 + 0) (σ o 0).toNatClampNeg (F_X1_kindByLetter (σ a1 x3.toNatClampNeg))) a1 (x3 + (1 : Int32)).toNatClampNeg) - (48 : Int32))) a1 (x3 + (2 : Int32)).toNatClampNeg) - (48 : Int32))) a1 (x3 + (4 : Int32)).toNatClampNeg)) - (48 : Int32))) o 0).toNatClampNeg (0 : Int32)) o 0 (((fs_u (fs_u (fs_u (fs_u (fs_u σ (7 * o - 14 + 0) (σ o 0).toNatClampNeg (F_X1_kindByLetter (σ a1 x3.toNatClampNeg))) (7 * o - 14 + 1) ((fs_u σ (7 * o - 14 + 0) (σ o 0).toNatClampNeg (F_X1_kindByLetter (σ a1 x3.toNatClampNeg))) o 0).toNatClampNeg (((fs_u σ (7 * o - 14 + 0) (σ o 0).toNatClampNeg (F_X1_kindByLetter (σ a1 x3.toNatClampNeg))) a1 (x3 + (1 : Int32)).toNatClampNeg) - (48 : Int32))) (7 * o - 14 + 2) ((fs_u (fs_u σ (7 * o - 14 + 0) (σ o 0).toNatClampNeg (F_X1_kindByLetter (σ a1 x3.toNatClampNeg))) (7 * o - 14 + 1) ((fs_u σ (7 * o - 14 + 0) (σ o 0).toNatClampNeg (F_X1_kindByLetter (σ a1 x3.toNatClampNeg))) o 0).toNatClampNeg (((fs_u σ (7 * o - 14 + 0) (σ o 0).toNatClampNeg (F_X1_kindByLetter (σ a1 x3.toNatClampNeg))) a1 (x3 + (1 : Int32)).toNatClampNeg) - (48 : Int32))) o 0).toNatClampNeg (((fs_u (fs_u σ (7 * o - 14 + 0) (σ o 0).toNatClampNeg (F_X1_kindByLetter (σ a1 x3.toNatClampNeg))) (7 * o - 14 + 1) ((fs_u σ (7 * o - 14 + 0) (σ o 0).toNatClampNeg (F_X1_kindByLetter (σ a1 x3.toNatClampNeg))) o 0).toNatClampNeg (((fs_u σ (7 * o - 14 + 0) (σ o 0).toNatClampNeg (F_X1_kindByLetter (σ a1 x3.toNatClampNeg))) a1 (x3 + (1 : Int32)).toNatClampNeg) - (48 : Int32))) a1 (x3 + (2 : Int32)).toNatClampNeg) - (48 : Int32))) (7 * o - 14 + 3) ((fs_u (fs_u (fs_u σ (7 * o - 14 + 0) (σ o 0).toNatClampNeg (F_X1_kindByLetter (σ a1 x3.toNatClampNeg))) (7 * o - 14 + 1) ((fs_u σ (7 * o - 14 + 0) (σ o 0).toNatClampNeg (F_X1_kindByLetter (σ a1 x3.toNatClampNeg))) o 0).toNatClampNeg (((fs_u σ (7 * o - 14 + 0) (σ o 0).toNatClampNeg (F_X1_kindByLetter (σ a1 x3.toNatClampNeg))) a1 (x3 + (1 : Int32)).toNatClampNeg) - (48 : Int32))) (7 * o - 14 + 2) ((fs_u (fs_u σ (7 * o - 14 + 0) (σ o 0).toNatClampNeg (F_X1_kindByLetter (σ a1 x3.toNatClampNeg))) (7 * o - 14 + 1) ((fs_u σ (7 * o - 14 + 0) (σ o 0).toNatClampNeg (F_X1_kindByLetter (σ a1 x3.toNatClampNeg))) o 0).toNatClampNeg (((fs_u σ (7 * o - 14 + 0) (σ o 0).toNatClampNeg (F_X1_kindByLetter (σ a1 x3.toNatClampNeg))) a1 (x3 + (1 : Int32)).toNatClampNeg) - (48 : Int32))) o 0).toNatClampNeg (((fs_u (fs_u σ (7 * o - 14 + 0) (σ o 0).toNatClampNeg (F_X1_kindByLetter (σ a1 x3.toNatClampNeg))) (7 * o - 14 + 1) ((fs_u σ (7 * o - 14 + 0) (σ o 0).toNatClampNeg (F_X1_kindByLetter (σ a1 x3.toNatClampNeg))) o 0).toNatClampNeg (((fs_u σ (7 * o - 14 + 0) (σ o 0).toNatClampNeg (F_X1_kindByLetter (σ a1 x3.toNatClampNeg))) a1 (x3 + (1 : Int32)).toNatClampNeg) - (48 : Int32))) a1 (x3 + (2 : Int32)).toNatClampNeg) - (48 : Int32))) o 0).toNatClampNeg ((((10 : Int32) * (((fs_u (fs_u (fs_u σ (7 * o - 14 + 0) (σ o 0).toNatClampNeg (F_X1_kindByLetter (σ a1 x3.toNatClampNeg))) (7 * o - 14 + 1) ((fs_u σ (7 * o - 14 + 0) (σ o 0).toNatClampNeg (F_X1_kindByLetter (σ a1 x3.toNatClampNeg))) o 0).toNatClampNeg (((fs_u σ (7 * o - 14 + 0) (σ o 0).toNatClampNeg (F_X1_kindByLetter (σ a1 x3.toNatClampNeg))) a1 (x3 + (1 : Int32)).toNatClampNeg) - (48 : Int32))) (7 * o - 14 + 2) ((fs_u (fs_u σ (7 * o - 14 + 0) (σ o 0).toNatClampNeg (F_X1_kindByLetter (σ a1 x3.toNatClampNeg))) (7 * o - 14 + 1) ((fs_u σ (7 * o - 14 + 0) (σ o 0).toNatClampNeg (F_X1_kindByLetter (σ a1 x3.toNatClampNeg))) o 0).toNatClampNeg (((fs_u σ (7 * o - 14 + 0) (σ o 0).toNatClampNeg (F_X1_kindByLetter (σ a1 x3.toNatClampNeg))) a1 (x3 + (1 : Int32)).toNatClampNeg) - (48 : Int32))) o 0).toNatClampNeg (((fs_u (fs_u σ (7 * o - 14 + 0) (σ o 0).toNatClampNeg (F_X1_kindByLetter (σ a1 x3.toNatClampNeg))) (7 * o - 14 + 1) ((fs_u σ (7 * o - 14 + 0) (σ o 0).toNatClampNeg (F_X1_kindByLetter (σ a1 x3.toNatClampNeg))) o 0).toNatClampNeg (((fs_u σ (7 * o - 14 + 0) (σ o 0).toNatClampNeg (F_X1_kindByLetter (σ a1 x3.toNatClampNeg))) a1 (x3 + (1 : Int32)).toNatClampNeg) - (48 : Int32))) a1 (x3 + (2 : Int32)).toNatClampNeg) - (48 : Int32))) a1 (x3 + (3 : Int32)).toNatClampNeg) - (48 : Int32))) + ((fs_u (fs_u (fs_u σ (7 * o - 14 + 0) (σ o 0).toNatClampNeg (F_X1_kindByLetter (σ a1 x3.toNatClampNeg))) (7 * o - 14 + 1) ((fs_u σ (7 * o - 14 + 0) (σ o 0).toNatClampNeg (F_X1_kindByLetter (σ a1 x3.toNatClampNeg))) o 0).toNatClampNeg (((fs_u σ (7 * o - 14 + 0) (σ o 0).toNatClampNeg (F_X1_kindByLetter (σ a1 x3.toNatClampNeg))) a1 (x3 + (1 : Int32)).toNatClampNeg) - (48 : Int32))) (7 * o - 14 + 2) ((fs_u (fs_u σ (7 * o - 14 + 0) (σ o 0).toNatClampNeg (F_X1_kindByLetter (σ a1 x3.toNatClampNeg))) (7 * o - 14 + 1) ((fs_u σ (7 * o - 14 + 0) (σ o 0).toNatClampNeg (F_X1_kindByLetter (σ a1 x3.toNatClampNeg))) o 0).toNatClampNeg (((fs_u σ (7 * o - 14 + 0) (σ o 0).toNatClampNeg (F_X1_kindByLetter (σ a1 x3.toNatClampNeg))) a1 (x3 + (1 : Int32)).toNatClampNeg) - (48 : Int32))) o 0).toNatClampNeg (((fs_u (fs_u σ (7 * o - 14 + 0) (σ o 0).toNatClampNeg (F_X1_kindByLetter (σ a1 x3.toNatClampNeg))) (7 * o - 14 + 1) ((fs_u σ (7 * o - 14 + 0) (σ o 0).toNatClampNeg (F_X1_kindByLetter (σ a1 x3.toNatClampNeg))) o 0).toNatClampNeg (((fs_u σ (7 * o - 14 + 0) (σ o 0).toNatClampNeg (F_X1_kindByLetter (σ a1 x3.toNatClampNeg))) a1 (x3 + (1 : Int32)).toNatClampNeg) - (48 : Int32))) a1 (x3 + (2 : Int32)).toNatClampNeg) - (48 : Int32))) a1 (x3 + (4 : Int32)).toNatClampNeg)) - (48 : Int32))) (7 * o - 14 + 4) ((fs_u (fs_u (fs_u (fs_u σ (7 * o - 14 + 0) (σ o 0).toNatClampNeg (F_X1_kindByLetter (σ a1 x3.toNatClampNeg))) (7 * o - 14 + 1) ((fs_u σ (7 * o - 14 + 0) (σ o 0).toNatClampNeg (F_X1_kindByLetter (σ a1 x3.toNatClampNeg))) o 0).toNatClampNeg (((fs_u σ (7 * o - 14 + 0) (σ o 0).toNatClampNeg (F_X1_kindByLetter (σ a1 x3.toNatClampNeg))) a1 (x3 + (1 : Int32)).toNatClampNeg) - (48 : Int32))) (7 * o - 14 + 2) ((fs_u (fs_u σ (7 * o - 14 + 0) (σ o 0).toNatClampNeg (F_X1_kindByLetter (σ a1 x3.toNatClampNeg))) (7 * o - 14 + 1) ((fs_u σ (7 * o - 14 + 0) (σ o 0).toNatClampNeg (F_X1_kindByLetter (σ a1 x3.toNatClampNeg))) o 0).toNatClampNeg (((fs_u σ (7 * o - 14 + 0) (σ o 0).toNatClampNeg (F_X1_kindByLetter (σ a1 x3.toNatClampNeg))) a1 (x3 + (1 : Int32)).toNatClampNeg) - (48 : Int32))) o 0).toNatClampNeg (((fs_u (fs_u σ (7 * o - 14 + 0) (σ o 0).toNatClampNeg (F_X1_kindByLetter (σ a1 x3.toNatClampNeg))) (7 * o - 14 + 1) ((fs_u σ (7 * o - 14 + 0) (σ o 0).toNatClampNeg (F_X1_kindByLetter (σ a1 x3.toNatClampNeg))) o 0).toNatClampNeg (((fs_u σ (7 * o - 14 + 0) (σ o 0).toNatClampNeg (F_X1_kindByLetter (σ a1 x3.toNatClampNeg))) a1 (x3 + (1 : Int32)).toNatClampNeg) - (48 : Int32))) a1 (x3 + (2 : Int32)).toNatClampNeg) - (48 : Int32))) (7 * o - 14 + 3) ((fs_u (fs_u (fs_u σ (7 * o - 14 + 0) (σ o 0).toNatClampNeg (F_X1_kindByLetter (σ a1 x3.toNatClampNeg))) (7 * o - 14 + 1) ((fs_u σ (7 * o - 14 + 0) (σ o 0).toNatClampNeg (F_X1_kindByLetter (σ a1 x3.toNatClampNeg))) o 0).toNatClampNeg (((fs_u σ (7 * o - 14 + 0) (σ o 0).toNatClampNeg (F_X1_kindByLetter (σ a1 x3.toNatClampNeg))) a1 (x3 + (1 : Int32)).toNatClampNeg) - (48 : Int32))) (7 * o - 14 + 2) ((fs_u (fs_u σ (7 * o - 14 + 0) (σ o 0).toNatClampNeg (F_X1_kindByLetter (σ a1 x3.toNatClampNeg))) (7 * o - 14 + 1) ((fs_u σ (7 * o - 14 + 0) (σ o 0).toNatClampNeg (F_X1_kindByLetter (σ a1 x3.toNatClampNeg))) o 0).toNatClampNeg (((fs_u σ (7 * o - 14 + 0) (σ o 0).toNatClampNeg (F_X1_kindByLetter (σ a1 x3.toNatClampNeg))) a1 (x3 + (1 : Int32)).toNatClampNeg) - (48 : Int32))) o 0).toNatClampNeg (((fs_u (fs_u σ (7 * o - 14 + 0) (σ o 0).toNatClampNeg (F_X1_kindByLetter (σ a1 x3.toNatClampNeg))) (7 * o - 14 + 1) ((fs_u σ (7 * o - 14 + 0) (σ o 0).toNatClampNeg (F_X1_kindByLetter (σ a1 x3.toNatClampNeg))) o 0).toNatClampNeg (((fs_u σ (7 * o - 14 + 0) (σ o 0).toNatClampNeg (F_X1_kindByLetter (σ a1 x3.toNatClampNeg))) a1 (x3 + (1 : Int32)).toNatClampNeg) - (48 : Int32))) a1 (x3 + (2 : Int32)).toNatClampNeg) - (48 : Int32))) o 0).toNatClampNeg ((((10 : Int32) * (((fs_u (fs_u (fs_u σ (7 * o - 14 + 0) (σ o 0).toNatClampNeg (F_X1_kindByLetter (σ a1 x3.toNatClampNeg))) (7 * o - 14 + 1) ((fs_u σ (7 * o - 14 + 0) (σ o 0).toNatClampNeg (F_X1_kindByLetter (σ a1 x3.toNatClampNeg))) o 0).toNatClampNeg (((fs_u σ (7 * o - 14 + 0) (σ o 0).toNatClampNeg (F_X1_kindByLetter (σ a1 x3.toNatClampNeg))) a1 (x3 + (1 : Int32)).toNatClampNeg) - (48 : Int32))) (7 * o - 14 + 2) ((fs_u (fs_u σ (7 * o - 14 + 0) (σ o 0).toNatClampNeg (F_X1_kindByLetter (σ a1 x3.toNatClampNeg))) (7 * o - 14 + 1) ((fs_u σ (7 * o - 14 + 0) (σ o 0).toNatClampNeg (F_X1_kindByLetter (σ a1 x3.toNatClampNeg))) o 0).toNatClampNeg (((fs_u σ (7 * o - 14 + 0) (σ o 0).toNatClampNeg (F_X1_kindByLetter (σ a1 x3.toNatClampNeg))) a1 (x3 + (1 : Int32)).toNatClampNeg) - (48 : Int32))) o 0).toNatClampNeg (((fs_u (fs_u σ (7 * o - 14 + 0) (σ o 0).toNatClampNeg (F_X1_kindByLetter (σ a1 x3.toNatClampNeg))) (7 * o - 14 + 1) ((fs_u σ (7 * o - 14 + 0) (σ o 0).toNatClampNeg (F_X1_kindByLetter (σ a1 x3.toNatClampNeg))) o 0).toNatClampNeg (((fs_u σ (7 * o - 14 + 0) (σ o 0).toNatClampNeg (F_X1_kindByLetter (σ a1 x3.toNatClampNeg))) a1 (x3 + (1 : Int32)).toNatClampNeg) - (48 : Int32))) a1 (x3 + (2 : Int32)).toNatClampNeg) - (48 : Int32))) a1 (x3 + (3 : Int32)).toNatClampNeg) - (48 : Int32))) + ((fs_u (fs_u (fs_u σ (7 * o - 14 + 0) (σ o 0).toNatClampNeg (F_X1_kindByLetter (σ a1 x3.toNatClampNeg))) (7 * o - 14 + 1) ((fs_u σ (7 * o - 14 + 0) (σ o 0).toNatClampNeg (F_X1_kindByLetter (σ a1 x3.toNatClampNeg))) o 0).toNatClampNeg (((fs_u σ (7 * o - 14 + 0) (σ o 0).toNatClampNeg (F_X1_kindByLetter (σ a1 x3.toNatClampNeg))) a1 (x3 + (1 : Int32)).toNatClampNeg) - (48 : Int32))) (7 * o - 14 + 2) ((fs_u (fs_u σ (7 * o - 14 + 0) (σ o 0).toNatClampNeg (F_X1_kindByLetter (σ a1 x3.toNatClampNeg))) (7 * o - 14 + 1) ((fs_u σ (7 * o - 14 + 0) (σ o 0).toNatClampNeg (F_X1_kindByLetter (σ a1 x3.toNatClampNeg))) o 0).toNatClampNeg (((fs_u σ (7 * o - 14 + 0) (σ o 0).toNatClampNeg (F_X1_kindByLetter (σ a1 x3.toNatClampNeg))) a1 (x3 + (1 : Int32)).toNatClampNeg) - (48 : Int32))) o 0).toNatClampNeg (((fs_u (fs_u σ (7 * o - 14 + 0) (σ o 0).toNatClampNeg (F_X1_kindByLetter (σ a1 x3.toNatClampNeg))) (7 * o - 14 + 1) ((fs_u σ (7 * o - 14 + 0) (σ o 0).toNatClampNeg (F_X1_kindByLetter (σ a1 x3.toNatClampNeg))) o 0).toNatClampNeg (((fs_u σ (7 * o - 14 + 0) (σ o 0).toNatClampNeg (F_X1_kindByLetter (σ a1 x3.toNatClampNeg))) a1 (x3 + (1 : Int32)).toNatClampNeg) - (48 : Int32))) a1 (x3 + (2 : Int32)).toNatClampNeg) - (48 : Int32))) a1 (x3 + (4 : Int32)).toNatClampNeg)) - (48 : Int32))) o 0).toNatClampNeg (0 : Int32)) o 0) + (1 : Int32)))))))))))))))
set_option maxRecDepth 20000 in
set_option maxHeartbeats 40000000 in
theorem l_X1_readItem_21 {o : Nat} {a1 : Nat} (ho : fs_K o) {X : fsC} (hX : fs_ok cX1_readItem RX1 6 { frames := 1, cells := 0, slots := 0, locals := 20 } X) : ∀ (n : Nat) (y2 : Int32) (y3 : Int32) (y4 : Int32) (y5 : Int32) (σ : fsS) (μ : fsL) (out : Nat × Int32) (_ : L_X1_readItem_21 o a1 n y2 y3 y4 y5 σ = some out) (k0 : out.1 = 0 → fs_PW X 35 [none, none, some (.int y2), none, none, none] [] σ μ) (k1 : out.1 = 1 → fs_PW X 55 [none, none, none, none, none, some (.int out.2)] [] σ μ) (k2 : out.1 = 2 → fs_PW X 64 [some (.ref o), some (.ref a1), none, some (.int y3), some (.int y4), none] [] σ μ), fs_PW X 21 [some (.ref o), some (.ref a1), some (.int y2), some (.int y3), some (.int y4), some (.int y5)] [] σ μ := by
  intro n
  induction n with
  | zero =>
    intro y2 y3 y4 y5 σ μ out h
    cases (show (none : Option (Nat × Int32)) = some out from h)
  | succ n0 ih =>
    intro y2 y3 y4 y5 σ μ out h k0 k1 k2
    unfold L_X1_readItem_21 at h
    refine s_iload hX dX1_readItem_21 rfl ?_
    refine s_iload_n hX dX1_readItem_23 rfl ?_
    refine s_ic hX (5 : Int32) dX1_readItem_24 (by decide) ?_
    refine s_iadd hX dX1_readItem_25 ?_
    refine s_ic_ge hX 64 dX1_readItem_26 (by decide) (fun c3 => ?_) (fun c3 => ?_)
    · have h := (if_pos c3).symm.trans h
      cases h
      refine fs_ma [true, true, false, true, true, false] ?_
      exact k2 rfl
    · have h := (if_neg c3).symm.trans h
      refine s_iload hX dX1_readItem_29 rfl ?_
      refine s_iload_n hX dX1_readItem_31 rfl ?_
      refine s_ic_lt hX 37 dX1_readItem_32 (by decide) (fun c4 => ?_) (fun c4 => ?_)
      · have h := (if_pos c4).symm.trans h
        refine s_aload_n hX dX1_readItem_37 rfl ?_
        refine s_iload hX dX1_readItem_38 rfl ?_
        obtain ⟨g5, h⟩ := fs_gd h
        refine s_iald hX dX1_readItem_40 g5 ?_
        refine s_bi hX (48 : Int32) dX1_readItem_41 (by decide) ?_
        refine s_ic_lt hX 55 dX1_readItem_43 (by decide) (fun c6 => ?_) (fun c6 => ?_)
        · have h := (if_pos c6).symm.trans h
          cases h
          refine fs_ma [false, false, false, false, false, true] ?_
          exact k1 rfl
        · have h := (if_neg c6).symm.trans h
          refine s_aload_n hX dX1_readItem_46 rfl ?_
          refine s_iload hX dX1_readItem_47 rfl ?_
          obtain ⟨g7, h⟩ := fs_gd h
          refine s_iald hX dX1_readItem_49 g7 ?_
          refine s_bi hX (57 : Int32) dX1_readItem_50 (by decide) ?_
          refine s_ic_le hX 58 dX1_readItem_52 (by decide) (fun c8 => ?_) (fun c8 => ?_)
          · have h := (if_pos c8).symm.trans h
            refine s_iinc hX (y5 + (1 : Int32)) dX1_readItem_58 rfl rfl (Nat.le_of_ble_eq_true rfl) ?_
            refine s_goto hX 21 dX1_readItem_61 (by decide) ?_
            refine fs_ma [true, true, true, true, true, true] ?_
            exact ih y2 y3 y4 (y5 + (1 : Int32)) σ μ out h k0 k1 k2
          · have h := (if_neg c8).symm.trans h
            cases h
            refine fs_ma [false, false, false, false, false, true] ?_
            exact k1 rfl
      · have h := (if_neg c4).symm.trans h
        cases h
        refine fs_ma [false, false, true, false, false, false] ?_
        exact k0 rfl
set_option maxRecDepth 20000 in
set_option maxHeartbeats 40000000 in
theorem m_X1_readItem (o : Nat) (a1 : Nat) (x2 : Int32) (x3 : Int32) (ho : fs_K o) (σ : fsS) (μ : fsL) (out : Int32 × fsS) (h : F_X1_readItem o a1 x2 x3 σ = some out) : fs_Met yX1_readItem cX1_readItem 6 (some .int) { frames := 1, cells := 0, slots := 0, locals := 20 } [.ref o, .ref a1, .int x2, .int x3] σ μ (some (.int out.1)) out.2 μ := by
  unfold F_X1_readItem at h
  refine fs_intro (by decide +kernel) (Nat.le_of_ble_eq_true rfl) (fun X hX hR => ?_)
  show fs_PW X 0 [some (.ref o), some (.ref a1), some (.int x2), some (.int x3), none, none] [] σ μ
  refine s_aload_n hX dX1_readItem_0 rfl ?_
  refine s_iload_n hX dX1_readItem_1 rfl ?_
  obtain ⟨g1, h⟩ := fs_gd h
  refine s_iald hX dX1_readItem_2 g1 ?_
  refine s_callS hX (as := [.int (σ a1 x3.toNatClampNeg)]) dX1_readItem_3 k_X1_53 v_X1_kindByLetter (m_X1_kindByLetter (σ a1 x3.toNatClampNeg) σ μ _ rfl) ⟨rfl, rfl⟩ ⟨(Nat.le_of_ble_eq_true rfl), (Nat.le_of_ble_eq_true rfl)⟩ rfl rfl (Nat.le_of_ble_eq_true rfl) ?_
  refine s_istore hX dX1_readItem_6 (Nat.le_of_ble_eq_true rfl) ?_
  refine s_iload hX dX1_readItem_8 rfl ?_
  refine s_ic hX (-1 : Int32) dX1_readItem_10 (by decide) ?_
  refine s_ic_ne hX 16 dX1_readItem_11 (by decide) (fun c2 => ?_) (fun c2 => ?_)
  · have h := (if_neg c2).symm.trans h
    refine s_iload_n hX dX1_readItem_16 rfl ?_
    refine s_ic hX (1 : Int32) dX1_readItem_17 (by decide) ?_
    refine s_iadd hX dX1_readItem_18 ?_
    refine s_istore hX dX1_readItem_19 (Nat.le_of_ble_eq_true rfl) ?_
    obtain ⟨q9, e9, h⟩ := fs_bind h
    refine fs_ma [true, true, true, true, true, true] ?_
    refine l_X1_readItem_21 ho hX fs_fu x2 x3 (F_X1_kindByLetter (σ a1 x3.toNatClampNeg)) (x3 + (1 : Int32)) σ μ q9 e9 (fun c10 => ?_) (fun c10 => ?_) (fun c10 => ?_)
    · have h := (if_pos c10).symm.trans h
      refine s_iload_n hX dX1_readItem_35 rfl ?_
      cases h
      exact s_iret hX hR dX1_readItem_36
    · have h := (if_neg (show ¬ q9.1 = 0 by rw [c10]; decide)).symm.trans h
      have h := (if_pos c10).symm.trans h
      refine s_iload hX dX1_readItem_55 rfl ?_
      cases h
      exact s_iret hX hR dX1_readItem_57
    · have h := (if_neg (show ¬ q9.1 = 0 by rw [c10]; decide)).symm.trans h
      have h := (if_neg (show ¬ q9.1 = 1 by rw [c10]; decide)).symm.trans h
      refine s_aload_n hX dX1_readItem_64 rfl ?_
      refine s_getr hX dX1_readItem_65 f_X1_15 (fs_kd1 ho) ?_
      refine s_aload_n hX dX1_readItem_68 rfl ?_
      refine s_geti hX dX1_readItem_69 f_X1_9 (fs_kd0 ho) ?_
      refine s_iload hX dX1_readItem_72 rfl ?_
      obtain ⟨g11, h⟩ := fs_gd h
      refine s_iast hX dX1_readItem_74 (fs_ik0 ho g11) ?_
      refine s_aload_n hX dX1_readItem_75 rfl ?_
      refine s_getr hX dX1_readItem_76 f_X1_19 (fs_kd2 ho) ?_
      refine s_aload_n hX dX1_readItem_79 rfl ?_
      refine s_geti hX dX1_readItem_80 f_X1_9 (fs_kd0 ho) ?_
      refine s_aload_n hX dX1_readItem_83 rfl ?_
      refine s_iload_n hX dX1_readItem_84 rfl ?_
      refine s_ic hX (1 : Int32) dX1_readItem_85 (by decide) ?_
      refine s_iadd hX dX1_readItem_86 ?_
      obtain ⟨g12, h⟩ := fs_gd h
      refine s_iald hX dX1_readItem_87 g12 ?_
      refine s_bi hX (48 : Int32) dX1_readItem_88 (by decide) ?_
      refine s_isub hX dX1_readItem_90 ?_
      obtain ⟨g13, h⟩ := fs_gd h
      refine s_iast hX dX1_readItem_91 (fs_ik1 ho g13) ?_
      refine s_aload_n hX dX1_readItem_92 rfl ?_
      refine s_getr hX dX1_readItem_93 f_X1_22 (fs_kd3 ho) ?_
      refine s_aload_n hX dX1_readItem_96 rfl ?_
      refine s_geti hX dX1_readItem_97 f_X1_9 (fs_kd0 ho) ?_
      refine s_aload_n hX dX1_readItem_100 rfl ?_
      refine s_iload_n hX dX1_readItem_101 rfl ?_
      refine s_ic hX (2 : Int32) dX1_readItem_102 (by decide) ?_
      refine s_iadd hX dX1_readItem_103 ?_
      obtain ⟨g14, h⟩ := fs_gd h
      refine s_iald hX dX1_readItem_104 g14 ?_
      refine s_bi hX (48 : Int32) dX1_readItem_105 (by decide) ?_
      refine s_isub hX dX1_readItem_107 ?_
      obtain ⟨g15, h⟩ := fs_gd h
      refine s_iast hX dX1_readItem_108 (fs_ik2 ho g15) ?_
      refine s_aload_n hX dX1_readItem_109 rfl ?_
      refine s_getr hX dX1_readItem_110 f_X1_25 (fs_kd4 ho) ?_
      refine s_aload_n hX dX1_readItem_113 rfl ?_
      refine s_geti hX dX1_readItem_114 f_X1_9 (fs_kd0 ho) ?_
      refine s_bi hX (10 : Int32) dX1_readItem_117 (by decide) ?_
      refine s_aload_n hX dX1_readItem_119 rfl ?_
      refine s_iload_n hX dX1_readItem_120 rfl ?_
      refine s_ic hX (3 : Int32) dX1_readItem_121 (by decide) ?_
      refine s_iadd hX dX1_readItem_122 ?_
      obtain ⟨g16, h⟩ := fs_gd h
      refine s_iald hX dX1_readItem_123 g16 ?_
      refine s_bi hX (48 : Int32) dX1_readItem_124 (by decide) ?_
      refine s_isub hX dX1_readItem_126 ?_
      refine s_imul hX dX1_readItem_127 ?_
      refine s_aload_n hX dX1_readItem_128 rfl ?_
      refine s_iload_n hX dX1_readItem_129 rfl ?_
      refine s_ic hX (4 : Int32) dX1_readItem_130 (by decide) ?_
      refine s_iadd hX dX1_readItem_131 ?_
      obtain ⟨g17, h⟩ := fs_gd h
      refine s_iald hX dX1_readItem_132 g17 ?_
      refine s_iadd hX dX1_readItem_133 ?_
      refine s_bi hX (48 : Int32) dX1_readItem_134 (by decide) ?_
      refine s_isub hX dX1_readItem_136 ?_
      obtain ⟨g18, h⟩ := fs_gd h
      refine s_iast hX dX1_readItem_137 (fs_ik3 ho g18) ?_
      refine s_aload_n hX dX1_readItem_138 rfl ?_
      refine s_getr hX dX1_readItem_139 f_X1_28 (fs_kd5 ho) ?_
      refine s_aload_n hX dX1_readItem_142 rfl ?_
      refine s_geti hX dX1_readItem_143 f_X1_9 (fs_kd0 ho) ?_
      refine s_ic hX (0 : Int32) dX1_readItem_146 (by decide) ?_
      obtain ⟨g19, h⟩ := fs_gd h
      refine s_iast hX dX1_readItem_147 (fs_ik4 ho g19) ?_
      refine s_aload_n hX dX1_readItem_148 rfl ?_
      refine s_dup hX dX1_readItem_149 rfl ?_
      refine s_geti hX dX1_readItem_150 f_X1_9 (fs_kd0 ho) ?_
      refine s_ic hX (1 : Int32) dX1_readItem_153 (by decide) ?_
      refine s_iadd hX dX1_readItem_154 ?_
      refine s_puti hX dX1_readItem_155 p_X1_9 (fs_kd0 ho) ?_
      refine s_bi hX (-9 : Int32) dX1_readItem_158 (by decide) ?_
      cases h
      exact s_iret hX hR dX1_readItem_160
  · have h := (if_pos c2).symm.trans h
    refine s_iload_n hX dX1_readItem_14 rfl ?_
    cases h
    exact s_iret hX hR dX1_readItem_15

-- X1_read
def L_X1_read_7 (o : Nat) (a1 : Nat) : Nat → Int32 → Int32 → fsS → Option (Nat × Int32 × fsS)
  | 0, _, _, _ => none
  | n0 + 1, y2, y3, σ => if y2 ≤ y3 then some (1, (0 : Int32), σ) else fs_g (fs_in y3 (fs_len a1)) (if (σ a1 y3.toNatClampNeg) = (32 : Int32) then L_X1_read_7 o a1 n0 y2 (y3 + (1 : Int32)) σ else if (σ o 0) = (6 : Int32) then if y3 = (-9 : Int32) then L_X1_read_7 o a1 n0 y2 (y3 + (5 : Int32)) σ else some (0, y3, σ) else (F_X1_readItem o a1 y2 y3 σ).bind (fun q5 => if q5.1 = (-9 : Int32) then L_X1_read_7 o a1 n0 y2 (y3 + (5 : Int32)) q5.2 else some (0, q5.1, q5.2)))
def F_X1_read (o : Nat) (a1 : Nat) (x2 : Int32) (σ : fsS) : Option (Int32 × fsS) := (L_X1_read_7 o a1 fs_fu x2 (0 : Int32) (fs_u σ o 0 (0 : Int32))).bind (fun q8 => if q8.1 = 0 then some (q8.2.1, q8.2.2) else if (2 : Int32) ≤ (q8.2.2 o 0) then some ((-9 : Int32), q8.2.2) else some (x2, q8.2.2))
set_option maxRecDepth 20000 in
set_option maxHeartbeats 40000000 in
theorem l_X1_read_7 {o : Nat} {a1 : Nat} (ho : fs_K o) {X : fsC} (hX : fs_ok cX1_read RX1 5 { frames := 2, cells := 0, slots := 0, locals := 45 } X) : ∀ (n : Nat) (y2 : Int32) (y3 : Int32) (σ : fsS) (μ : fsL) (out : Nat × Int32 × fsS) (_ : L_X1_read_7 o a1 n y2 y3 σ = some out) (k0 : out.1 = 0 → fs_PW X 55 [none, none, none, none, some (.int out.2.1)] [] out.2.2 μ) (k1 : out.1 = 1 → fs_PW X 64 [some (.ref o), none, some (.int y2), none, none] [] out.2.2 μ), fs_PW X 7 [some (.ref o), some (.ref a1), some (.int y2), some (.int y3), none] [] σ μ := by
  intro n
  induction n with
  | zero =>
    intro y2 y3 σ μ out h
    cases (show (none : Option (Nat × Int32 × fsS)) = some out from h)
  | succ n0 ih =>
    intro y2 y3 σ μ out h k0 k1
    unfold L_X1_read_7 at h
    refine s_iload_n hX dX1_read_7 rfl ?_
    refine s_iload_n hX dX1_read_8 rfl ?_
    refine s_ic_ge hX 64 dX1_read_9 (by decide) (fun c1 => ?_) (fun c1 => ?_)
    · have h := (if_pos c1).symm.trans h
      cases h
      refine fs_ma [true, false, true, false, false] ?_
      exact k1 rfl
    · have h := (if_neg c1).symm.trans h
      refine s_aload_n hX dX1_read_12 rfl ?_
      refine s_iload_n hX dX1_read_13 rfl ?_
      obtain ⟨g2, h⟩ := fs_gd h
      refine s_iald hX dX1_read_14 g2 ?_
      refine s_bi hX (32 : Int32) dX1_read_15 (by decide) ?_
      refine s_ic_ne hX 26 dX1_read_17 (by decide) (fun c3 => ?_) (fun c3 => ?_)
      · have h := (if_neg c3).symm.trans h
        refine s_aload_n hX dX1_read_26 rfl ?_
        refine s_geti hX dX1_read_27 f_X1_9 (fs_kd0 ho) ?_
        refine s_bi hX (6 : Int32) dX1_read_30 (by decide) ?_
        refine s_ic_ne hX 39 dX1_read_32 (by decide) (fun c4 => ?_) (fun c4 => ?_)
        · have h := (if_neg c4).symm.trans h
          refine s_aload_n hX dX1_read_39 rfl ?_
          refine s_aload_n hX dX1_read_40 rfl ?_
          refine s_iload_n hX dX1_read_41 rfl ?_
          refine s_iload_n hX dX1_read_42 rfl ?_
          obtain ⟨q5, e5, h⟩ := fs_bind h
          refine s_cV hX [.ref a1, .int y2, .int y3] dX1_read_43 k_X1_49 v_X1_readItem (m_X1_readItem o a1 y2 y3 ho σ μ q5 e5) (fs_K_is ho) fs_c1 ⟨rfl, rfl⟩ ⟨(Nat.le_of_ble_eq_true rfl), (Nat.le_of_ble_eq_true rfl)⟩ rfl rfl (Nat.le_of_ble_eq_true rfl) ?_
          refine s_istore hX dX1_read_46 (Nat.le_of_ble_eq_true rfl) ?_
          refine s_iload hX dX1_read_48 rfl ?_
          refine s_bi hX (-9 : Int32) dX1_read_50 (by decide) ?_
          refine s_ic_eq hX 58 dX1_read_52 (by decide) (fun c6 => ?_) (fun c6 => ?_)
          · have h := (if_pos c6).symm.trans h
            refine s_iinc hX (y3 + (5 : Int32)) dX1_read_58 rfl rfl (Nat.le_of_ble_eq_true rfl) ?_
            refine s_goto hX 7 dX1_read_61 (by decide) ?_
            refine fs_ma [true, true, true, true, false] ?_
            exact ih y2 (y3 + (5 : Int32)) q5.2 μ out h k0 k1
          · have h := (if_neg c6).symm.trans h
            cases h
            refine fs_ma [false, false, false, false, true] ?_
            exact k0 rfl
        · have h := (if_pos c4).symm.trans h
          refine s_iload_n hX dX1_read_35 rfl ?_
          refine s_goto hX 46 dX1_read_36 (by decide) ?_
          refine s_istore hX dX1_read_46 (Nat.le_of_ble_eq_true rfl) ?_
          refine s_iload hX dX1_read_48 rfl ?_
          refine s_bi hX (-9 : Int32) dX1_read_50 (by decide) ?_
          refine s_ic_eq hX 58 dX1_read_52 (by decide) (fun c7 => ?_) (fun c7 => ?_)
          · have h := (if_pos c7).symm.trans h
            refine s_iinc hX (y3 + (5 : Int32)) dX1_read_58 rfl rfl (Nat.le_of_ble_eq_true rfl) ?_
            refine s_goto hX 7 dX1_read_61 (by decide) ?_
            refine fs_ma [true, true, true, true, false] ?_
            exact ih y2 (y3 + (5 : Int32)) σ μ out h k0 k1
          · have h := (if_neg c7).symm.trans h
            cases h
            refine fs_ma [false, false, false, false, true] ?_
            exact k0 rfl
      · have h := (if_pos c3).symm.trans h
        refine s_iinc hX (y3 + (1 : Int32)) dX1_read_20 rfl rfl (Nat.le_of_ble_eq_true rfl) ?_
        refine s_goto hX 7 dX1_read_23 (by decide) ?_
        refine fs_ma [true, true, true, true, false] ?_
        exact ih y2 (y3 + (1 : Int32)) σ μ out h k0 k1
set_option maxRecDepth 20000 in
set_option maxHeartbeats 40000000 in
theorem m_X1_read (o : Nat) (a1 : Nat) (x2 : Int32) (ho : fs_K o) (σ : fsS) (μ : fsL) (out : Int32 × fsS) (h : F_X1_read o a1 x2 σ = some out) : fs_Met yX1_read cX1_read 5 (some .int) { frames := 2, cells := 0, slots := 0, locals := 45 } [.ref o, .ref a1, .int x2] σ μ (some (.int out.1)) out.2 μ := by
  unfold F_X1_read at h
  refine fs_intro (by decide +kernel) (Nat.le_of_ble_eq_true rfl) (fun X hX hR => ?_)
  show fs_PW X 0 [some (.ref o), some (.ref a1), some (.int x2), none, none] [] σ μ
  refine s_aload_n hX dX1_read_0 rfl ?_
  refine s_ic hX (0 : Int32) dX1_read_1 (by decide) ?_
  refine s_puti hX dX1_read_2 p_X1_9 (fs_kd0 ho) ?_
  refine s_ic hX (0 : Int32) dX1_read_5 (by decide) ?_
  refine s_istore_n hX dX1_read_6 (Nat.le_of_ble_eq_true rfl) ?_
  obtain ⟨q8, e8, h⟩ := fs_bind h
  refine fs_ma [true, true, true, true, false] ?_
  refine l_X1_read_7 ho hX fs_fu x2 (0 : Int32) (fs_u σ o 0 (0 : Int32)) μ q8 e8 (fun c9 => ?_) (fun c9 => ?_)
  · have h := (if_pos c9).symm.trans h
    refine s_iload hX dX1_read_55 rfl ?_
    cases h
    exact s_iret hX hR dX1_read_57
  · have h := (if_neg (show ¬ q8.1 = 0 by rw [c9]; decide)).symm.trans h
    refine s_aload_n hX dX1_read_64 rfl ?_
    refine s_geti hX dX1_read_65 f_X1_9 (fs_kd0 ho) ?_
    refine s_ic hX (2 : Int32) dX1_read_68 (by decide) ?_
    refine s_ic_ge hX 76 dX1_read_69 (by decide) (fun c10 => ?_) (fun c10 => ?_)
    · have h := (if_pos c10).symm.trans h
      refine s_bi hX (-9 : Int32) dX1_read_76 (by decide) ?_
      cases h
      exact s_iret hX hR dX1_read_78
    · have h := (if_neg c10).symm.trans h
      refine s_iload_n hX dX1_read_72 rfl ?_
      refine s_goto hX 78 dX1_read_73 (by decide) ?_
      cases h
      exact s_iret hX hR dX1_read_78

-- X1_kindAbove
def F_X1_kindAbove (x0 : Int32) : Int32 := if x0 = (4 : Int32) then (1 : Int32) else if x0 = (5 : Int32) then (3 : Int32) else (0 : Int32)
set_option maxRecDepth 20000 in
set_option maxHeartbeats 40000000 in
theorem m_X1_kindAbove (x0 : Int32)  (σ : fsS) (μ : fsL) (out : Int32) (h : F_X1_kindAbove x0 = out) : fs_Met yX1_kindAbove cX1_kindAbove 1 (some .int) { frames := 0, cells := 0, slots := 0, locals := 0 } [.int x0] σ μ (some (.int out)) σ μ := by
  unfold F_X1_kindAbove at h
  refine fs_intro (by decide +kernel) (Nat.le_of_ble_eq_true rfl) (fun X hX hR => ?_)
  show fs_PW X 0 [some (.int x0)] [] σ μ
  refine s_iload_n hX dX1_kindAbove_0 rfl ?_
  by_cases c1 : x0 = (4 : Int32)
  · have h := (if_pos c1).symm.trans h
    refine s_lookK hX 28 (4 : Int32) c1 dX1_kindAbove_1 (by decide) rfl (by decide) ?_
    refine s_ic hX (1 : Int32) dX1_kindAbove_28 (by decide) ?_
    subst h
    exact s_iret hX hR dX1_kindAbove_29
  · have h := (if_neg c1).symm.trans h
    by_cases c2 : x0 = (5 : Int32)
    · have h := (if_pos c2).symm.trans h
      refine s_lookK hX 30 (5 : Int32) c2 dX1_kindAbove_1 (by decide) rfl (by decide) ?_
      refine s_ic hX (3 : Int32) dX1_kindAbove_30 (by decide) ?_
      subst h
      exact s_iret hX hR dX1_kindAbove_31
    · have h := (if_neg c2).symm.trans h
      refine s_look hX (off := 31) 32 dX1_kindAbove_1 (by decide) (by rw [lv_osw c1 (by decide)]; rw [lv_osw c2 (by decide)]; rfl) (by decide) ?_
      refine s_ic hX (0 : Int32) dX1_kindAbove_32 (by decide) ?_
      subst h
      exact s_iret hX hR dX1_kindAbove_33
