/-- the law's loop from its start, on every script -/
theorem law_0 (xs : Nat → Int32) {Ln : Nat} (hL : Ln ≤ 3072) : pL_law_l23 xs Ln 513 (0 : Int32) (hz 0) (hz 1) (hz 2) (hz 3) (hz 4) (hz 5) (hz 8) (hz 9) (hz 10) (hz 11) (hz 12) (hz 13) (fun j => hz (14 + j)) (fun k => hz (6 + k)) (fun k => hz (22 + 3 * k)) (fun k => hz (23 + 3 * k)) (fun k => hz (24 + 3 * k)) mzz (sI Z0 1 1) = some 1 :=
  law_l xs hL 513 0 0 (by omega) (by omega) (by omega) (by omega) RE_0
