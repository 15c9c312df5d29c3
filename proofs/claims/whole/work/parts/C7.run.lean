/-! what constructors make: the run, and the world that it makes -/
def cn_pL : List Nat := [0, 1, 2, 3, 4, 5, 6, 7, 8, 9, 10, 11, 12, 13, 14, 15, 16, 17, 18, 19, 20, 21, 22, 23, 24, 25, 26, 27, 28, 29, 30, 31, 32, 33, 34, 35, 36, 37, 38, 39, 40, 41, 42, 43, 44, 45, 46, 47, 48, 49, 50, 51, 52, 53, 54, 55, 56, 57, 58, 59, 60, 61, 62, 63, 64, 65, 66, 67, 68, 69, 70, 71, 72, 73, 74, 75, 76, 77, 78, 79, 80, 81, 82, 83, 84, 85, 86, 87, 88, 89, 90, 91, 92, 93, 94, 95, 96, 97, 98, 99, 100, 101, 102, 103, 104, 105, 106, 107, 108, 109, 110, 111, 112, 113, 114, 115, 116, 117, 118, 119, 120, 121, 122, 123, 124, 125, 126, 127, 128, 129, 130, 131, 132, 133, 134, 135, 136, 137, 138, 139, 140, 141, 142, 143, 144, 145, 146, 147, 148, 149, 150, 151, 152, 153, 154, 155, 156, 157, 158, 159, 160, 161, 162, 163, 164, 165, 166, 167, 168, 169, 170, 171, 172, 173, 174, 175, 176, 177, 178, 179, 180, 181, 182, 183, 184, 185, 186, 187, 188, 189, 190, 191, 192, 193, 194, 195, 196, 197, 198, 199, 200, 201, 216, 217, 218, 219, 220, 221, 222, 223, 224, 225, 226, 227, 228, 229, 230, 231, 232, 233, 234, 235, 202, 203, 204, 205, 206, 207, 208, 209, 210, 211, 212, 213, 214, 215, 236, 237, 238, 239, 240, 241, 242, 243, 244, 245, 246, 247, 248]
def cn_p (h : Nat) : Nat := cn_pL.getD h 0
def cn_i0 (h k : Nat) : Int32 := match (es_sh h).1 with
  | 11 => if k = 5 then -1 else 0
  | 12 => if k = 0 then 8 else if k = 8 then 467 else 0
  | 14 => if k = 5 ∨ k = 7 then -1 else 0
  | 17 => if 6 ≤ k then -1 else 0
  | 18 => if k = 5 ∨ k = 6 then -1 else if k = 23 then 1 else 0
  | _ => 0
def cn_ck (cs : List cn_C) (h : Nat) : Bool := match cs[cn_p h]? with
  | none => false
  | some (k, n, fs) =>
    if (es_sh h).1 < 3 then k == (es_sh h).1 && n == (es_sh h).2
    else if (es_sh h).1 < 8 then k == (es_sh h).1 && (n == (es_sh h).2 && (fs.length == n && (List.range n).all (fun i => match fs[i]?, es_rf h i with
      | some (.ref p), some g => p == cn_p g
      | _, _ => false)))
    else k == (es_sh h).1 && (fs.length == es_nf (k - 10) && (List.range (es_nf (k - 10))).all (fun j => match es_fty (k - 10) j, fs[j]? with
      | 0, some (.int x) => x == cn_i0 h j
      | 3, some (.int x) => x == cn_i0 h j
      | 1, some (.long x) => x == 0
      | 2, some (.ref p) => (match es_rf h j with
        | some g => p == cn_p g
        | none => false)
      | _, _ => false))
def cn_c0 : List cn_C := [(10, 0, cn_def 0)]
def cn_c1 : Option (List cn_C × Nat × Nat) := cn_ev 5 0 0 cn_c0
def cn_m0 (r : List cn_C) : Option cn_Z := cn_run (cn_ev 0) (cn_lk (cn_dL 184)) (cn_lk (cn_fL 184)) (cn_lk (cn_lL 184)) 8 122 1000 (0, [some (.ref 236)], [], r ++ [(18, 0, cn_def 8)], 0, 0)
def cn_good : Bool := match cn_c1 with
  | none => false
  | some r => r.1.length == 236 && (decide (r.2.1 ≤ 1000) && (decide (r.2.2 ≤ 100000) && (match cn_m0 r.1 with
    | none => false
    | some z => (match z.2.1, z.2.2.1 with
      | [some (.ref q)], [] => q == 236
      | _, _ => false) && (z.2.2.2.1.length == 249 && (decide (z.2.2.2.2.1 ≤ 1000) && (decide (z.2.2.2.2.2 ≤ 100000) && (List.range 249).all (cn_ck z.2.2.2.1)))))))
set_option maxRecDepth 1000000 in
theorem cn_isgood : cn_good = true := by decide +kernel
set_option maxRecDepth 100000 in
theorem cn_p_inj : ∀ i, i < 249 → ∀ j, j < 249 → cn_p i = cn_p j → i = j := by decide +kernel
set_option maxRecDepth 100000 in
theorem cn_p_lt : ∀ i, i < 249 → cn_p i < 249 := by decide +kernel
