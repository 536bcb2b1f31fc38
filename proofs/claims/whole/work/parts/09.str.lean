-- the methods of String constants
theorem c_strlen (l : Launch) (γ : Gm) {i : Nat} (h : i < 6) : Kt l γ yJ0_length_8abf5 (Cond.code yJ0_length_8abf5 cJ0_length_8abf5 1 (some .int) :: U) 1 20 [.ref (sad γ i)] [] (some (.int (tLn i))) [] := sorry
theorem c_strchr (l : Launch) (γ : Gm) {i : Nat} {j : Int32} (h : i < 6) (g : inB j (tLen.getD i 0) = true) : Kt l γ yJ0_charAt_5068e (Cond.code yJ0_charAt_5068e cJ0_charAt_5068e 2 (some .char) :: U) 4 100 [.ref (sad γ i), .int j] [] (some (.int (tCh i j))) [] := sorry
