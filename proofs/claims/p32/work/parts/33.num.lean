/-! the numbers of the law: small naturals, by their nI -/
theorem dv_2 {N : Nat} (h : N < 2147483648) : nI N / 2 = nI (N / 2) := pk_div (d := 2) h (by decide) (by decide)
theorem rm_2 {N : Nat} : nI N - nI (N / 2 * 2) = nI (N % 2) := by
  rw [pk_sub (by omega)]
  exact congrArg nI (by omega)
theorem mr_2 {N : Nat} : nI N * (2 : Int32) = nI (N * 2) := pk_mul N 2
theorem nz_2 : ((2 : Int32) = 0) = False := eq_false (by decide)
theorem dv_3 {N : Nat} (h : N < 2147483648) : nI N / 3 = nI (N / 3) := pk_div (d := 3) h (by decide) (by decide)
theorem rm_3 {N : Nat} : nI N - nI (N / 3 * 3) = nI (N % 3) := by
  rw [pk_sub (by omega)]
  exact congrArg nI (by omega)
theorem mr_3 {N : Nat} : nI N * (3 : Int32) = nI (N * 3) := pk_mul N 3
theorem nz_3 : ((3 : Int32) = 0) = False := eq_false (by decide)
theorem dv_4 {N : Nat} (h : N < 2147483648) : nI N / 4 = nI (N / 4) := pk_div (d := 4) h (by decide) (by decide)
theorem rm_4 {N : Nat} : nI N - nI (N / 4 * 4) = nI (N % 4) := by
  rw [pk_sub (by omega)]
  exact congrArg nI (by omega)
theorem mr_4 {N : Nat} : nI N * (4 : Int32) = nI (N * 4) := pk_mul N 4
theorem nz_4 : ((4 : Int32) = 0) = False := eq_false (by decide)
theorem dv_5 {N : Nat} (h : N < 2147483648) : nI N / 5 = nI (N / 5) := pk_div (d := 5) h (by decide) (by decide)
theorem rm_5 {N : Nat} : nI N - nI (N / 5 * 5) = nI (N % 5) := by
  rw [pk_sub (by omega)]
  exact congrArg nI (by omega)
theorem mr_5 {N : Nat} : nI N * (5 : Int32) = nI (N * 5) := pk_mul N 5
theorem nz_5 : ((5 : Int32) = 0) = False := eq_false (by decide)
theorem dv_6 {N : Nat} (h : N < 2147483648) : nI N / 6 = nI (N / 6) := pk_div (d := 6) h (by decide) (by decide)
theorem rm_6 {N : Nat} : nI N - nI (N / 6 * 6) = nI (N % 6) := by
  rw [pk_sub (by omega)]
  exact congrArg nI (by omega)
theorem mr_6 {N : Nat} : nI N * (6 : Int32) = nI (N * 6) := pk_mul N 6
theorem nz_6 : ((6 : Int32) = 0) = False := eq_false (by decide)
theorem dv_7 {N : Nat} (h : N < 2147483648) : nI N / 7 = nI (N / 7) := pk_div (d := 7) h (by decide) (by decide)
theorem rm_7 {N : Nat} : nI N - nI (N / 7 * 7) = nI (N % 7) := by
  rw [pk_sub (by omega)]
  exact congrArg nI (by omega)
theorem mr_7 {N : Nat} : nI N * (7 : Int32) = nI (N * 7) := pk_mul N 7
theorem nz_7 : ((7 : Int32) = 0) = False := eq_false (by decide)
theorem dv_8 {N : Nat} (h : N < 2147483648) : nI N / 8 = nI (N / 8) := pk_div (d := 8) h (by decide) (by decide)
theorem rm_8 {N : Nat} : nI N - nI (N / 8 * 8) = nI (N % 8) := by
  rw [pk_sub (by omega)]
  exact congrArg nI (by omega)
theorem mr_8 {N : Nat} : nI N * (8 : Int32) = nI (N * 8) := pk_mul N 8
theorem nz_8 : ((8 : Int32) = 0) = False := eq_false (by decide)
theorem dv_9 {N : Nat} (h : N < 2147483648) : nI N / 9 = nI (N / 9) := pk_div (d := 9) h (by decide) (by decide)
theorem rm_9 {N : Nat} : nI N - nI (N / 9 * 9) = nI (N % 9) := by
  rw [pk_sub (by omega)]
  exact congrArg nI (by omega)
theorem mr_9 {N : Nat} : nI N * (9 : Int32) = nI (N * 9) := pk_mul N 9
theorem nz_9 : ((9 : Int32) = 0) = False := eq_false (by decide)
theorem dv_10 {N : Nat} (h : N < 2147483648) : nI N / 10 = nI (N / 10) := pk_div (d := 10) h (by decide) (by decide)
theorem rm_10 {N : Nat} : nI N - nI (N / 10 * 10) = nI (N % 10) := by
  rw [pk_sub (by omega)]
  exact congrArg nI (by omega)
theorem mr_10 {N : Nat} : nI N * (10 : Int32) = nI (N * 10) := pk_mul N 10
theorem nz_10 : ((10 : Int32) = 0) = False := eq_false (by decide)
theorem dv_11 {N : Nat} (h : N < 2147483648) : nI N / 11 = nI (N / 11) := pk_div (d := 11) h (by decide) (by decide)
theorem rm_11 {N : Nat} : nI N - nI (N / 11 * 11) = nI (N % 11) := by
  rw [pk_sub (by omega)]
  exact congrArg nI (by omega)
theorem mr_11 {N : Nat} : nI N * (11 : Int32) = nI (N * 11) := pk_mul N 11
theorem nz_11 : ((11 : Int32) = 0) = False := eq_false (by decide)
theorem dv_12 {N : Nat} (h : N < 2147483648) : nI N / 12 = nI (N / 12) := pk_div (d := 12) h (by decide) (by decide)
theorem rm_12 {N : Nat} : nI N - nI (N / 12 * 12) = nI (N % 12) := by
  rw [pk_sub (by omega)]
  exact congrArg nI (by omega)
theorem mr_12 {N : Nat} : nI N * (12 : Int32) = nI (N * 12) := pk_mul N 12
theorem nz_12 : ((12 : Int32) = 0) = False := eq_false (by decide)
theorem dv_13 {N : Nat} (h : N < 2147483648) : nI N / 13 = nI (N / 13) := pk_div (d := 13) h (by decide) (by decide)
theorem rm_13 {N : Nat} : nI N - nI (N / 13 * 13) = nI (N % 13) := by
  rw [pk_sub (by omega)]
  exact congrArg nI (by omega)
theorem mr_13 {N : Nat} : nI N * (13 : Int32) = nI (N * 13) := pk_mul N 13
theorem nz_13 : ((13 : Int32) = 0) = False := eq_false (by decide)
theorem dv_16 {N : Nat} (h : N < 2147483648) : nI N / 16 = nI (N / 16) := pk_div (d := 16) h (by decide) (by decide)
theorem rm_16 {N : Nat} : nI N - nI (N / 16 * 16) = nI (N % 16) := by
  rw [pk_sub (by omega)]
  exact congrArg nI (by omega)
theorem mr_16 {N : Nat} : nI N * (16 : Int32) = nI (N * 16) := pk_mul N 16
theorem nz_16 : ((16 : Int32) = 0) = False := eq_false (by decide)
theorem dv_22 {N : Nat} (h : N < 2147483648) : nI N / 22 = nI (N / 22) := pk_div (d := 22) h (by decide) (by decide)
theorem rm_22 {N : Nat} : nI N - nI (N / 22 * 22) = nI (N % 22) := by
  rw [pk_sub (by omega)]
  exact congrArg nI (by omega)
theorem mr_22 {N : Nat} : nI N * (22 : Int32) = nI (N * 22) := pk_mul N 22
theorem nz_22 : ((22 : Int32) = 0) = False := eq_false (by decide)
theorem dv_23 {N : Nat} (h : N < 2147483648) : nI N / 23 = nI (N / 23) := pk_div (d := 23) h (by decide) (by decide)
theorem rm_23 {N : Nat} : nI N - nI (N / 23 * 23) = nI (N % 23) := by
  rw [pk_sub (by omega)]
  exact congrArg nI (by omega)
theorem mr_23 {N : Nat} : nI N * (23 : Int32) = nI (N * 23) := pk_mul N 23
theorem nz_23 : ((23 : Int32) = 0) = False := eq_false (by decide)
theorem dv_26 {N : Nat} (h : N < 2147483648) : nI N / 26 = nI (N / 26) := pk_div (d := 26) h (by decide) (by decide)
theorem rm_26 {N : Nat} : nI N - nI (N / 26 * 26) = nI (N % 26) := by
  rw [pk_sub (by omega)]
  exact congrArg nI (by omega)
theorem mr_26 {N : Nat} : nI N * (26 : Int32) = nI (N * 26) := pk_mul N 26
theorem nz_26 : ((26 : Int32) = 0) = False := eq_false (by decide)
theorem dv_32 {N : Nat} (h : N < 2147483648) : nI N / 32 = nI (N / 32) := pk_div (d := 32) h (by decide) (by decide)
theorem rm_32 {N : Nat} : nI N - nI (N / 32 * 32) = nI (N % 32) := by
  rw [pk_sub (by omega)]
  exact congrArg nI (by omega)
theorem mr_32 {N : Nat} : nI N * (32 : Int32) = nI (N * 32) := pk_mul N 32
theorem nz_32 : ((32 : Int32) = 0) = False := eq_false (by decide)
theorem dv_48 {N : Nat} (h : N < 2147483648) : nI N / 48 = nI (N / 48) := pk_div (d := 48) h (by decide) (by decide)
theorem rm_48 {N : Nat} : nI N - nI (N / 48 * 48) = nI (N % 48) := by
  rw [pk_sub (by omega)]
  exact congrArg nI (by omega)
theorem mr_48 {N : Nat} : nI N * (48 : Int32) = nI (N * 48) := pk_mul N 48
theorem nz_48 : ((48 : Int32) = 0) = False := eq_false (by decide)
theorem dv_81 {N : Nat} (h : N < 2147483648) : nI N / 81 = nI (N / 81) := pk_div (d := 81) h (by decide) (by decide)
theorem rm_81 {N : Nat} : nI N - nI (N / 81 * 81) = nI (N % 81) := by
  rw [pk_sub (by omega)]
  exact congrArg nI (by omega)
theorem mr_81 {N : Nat} : nI N * (81 : Int32) = nI (N * 81) := pk_mul N 81
theorem nz_81 : ((81 : Int32) = 0) = False := eq_false (by decide)
theorem dv_100 {N : Nat} (h : N < 2147483648) : nI N / 100 = nI (N / 100) := pk_div (d := 100) h (by decide) (by decide)
theorem rm_100 {N : Nat} : nI N - nI (N / 100 * 100) = nI (N % 100) := by
  rw [pk_sub (by omega)]
  exact congrArg nI (by omega)
theorem mr_100 {N : Nat} : nI N * (100 : Int32) = nI (N * 100) := pk_mul N 100
theorem nz_100 : ((100 : Int32) = 0) = False := eq_false (by decide)
theorem dv_101 {N : Nat} (h : N < 2147483648) : nI N / 101 = nI (N / 101) := pk_div (d := 101) h (by decide) (by decide)
theorem rm_101 {N : Nat} : nI N - nI (N / 101 * 101) = nI (N % 101) := by
  rw [pk_sub (by omega)]
  exact congrArg nI (by omega)
theorem mr_101 {N : Nat} : nI N * (101 : Int32) = nI (N * 101) := pk_mul N 101
theorem nz_101 : ((101 : Int32) = 0) = False := eq_false (by decide)
theorem dv_102 {N : Nat} (h : N < 2147483648) : nI N / 102 = nI (N / 102) := pk_div (d := 102) h (by decide) (by decide)
theorem rm_102 {N : Nat} : nI N - nI (N / 102 * 102) = nI (N % 102) := by
  rw [pk_sub (by omega)]
  exact congrArg nI (by omega)
theorem mr_102 {N : Nat} : nI N * (102 : Int32) = nI (N * 102) := pk_mul N 102
theorem nz_102 : ((102 : Int32) = 0) = False := eq_false (by decide)
theorem dv_128 {N : Nat} (h : N < 2147483648) : nI N / 128 = nI (N / 128) := pk_div (d := 128) h (by decide) (by decide)
theorem rm_128 {N : Nat} : nI N - nI (N / 128 * 128) = nI (N % 128) := by
  rw [pk_sub (by omega)]
  exact congrArg nI (by omega)
theorem mr_128 {N : Nat} : nI N * (128 : Int32) = nI (N * 128) := pk_mul N 128
theorem nz_128 : ((128 : Int32) = 0) = False := eq_false (by decide)
theorem dv_256 {N : Nat} (h : N < 2147483648) : nI N / 256 = nI (N / 256) := pk_div (d := 256) h (by decide) (by decide)
theorem rm_256 {N : Nat} : nI N - nI (N / 256 * 256) = nI (N % 256) := by
  rw [pk_sub (by omega)]
  exact congrArg nI (by omega)
theorem mr_256 {N : Nat} : nI N * (256 : Int32) = nI (N * 256) := pk_mul N 256
theorem nz_256 : ((256 : Int32) = 0) = False := eq_false (by decide)
theorem dv_2048 {N : Nat} (h : N < 2147483648) : nI N / 2048 = nI (N / 2048) := pk_div (d := 2048) h (by decide) (by decide)
theorem rm_2048 {N : Nat} : nI N - nI (N / 2048 * 2048) = nI (N % 2048) := by
  rw [pk_sub (by omega)]
  exact congrArg nI (by omega)
theorem mr_2048 {N : Nat} : nI N * (2048 : Int32) = nI (N * 2048) := pk_mul N 2048
theorem nz_2048 : ((2048 : Int32) = 0) = False := eq_false (by decide)
theorem dv_4096 {N : Nat} (h : N < 2147483648) : nI N / 4096 = nI (N / 4096) := pk_div (d := 4096) h (by decide) (by decide)
theorem rm_4096 {N : Nat} : nI N - nI (N / 4096 * 4096) = nI (N % 4096) := by
  rw [pk_sub (by omega)]
  exact congrArg nI (by omega)
theorem mr_4096 {N : Nat} : nI N * (4096 : Int32) = nI (N * 4096) := pk_mul N 4096
theorem nz_4096 : ((4096 : Int32) = 0) = False := eq_false (by decide)
theorem dv_60000 {N : Nat} (h : N < 2147483648) : nI N / 60000 = nI (N / 60000) := pk_div (d := 60000) h (by decide) (by decide)
theorem rm_60000 {N : Nat} : nI N - nI (N / 60000 * 60000) = nI (N % 60000) := by
  rw [pk_sub (by omega)]
  exact congrArg nI (by omega)
theorem mr_60000 {N : Nat} : nI N * (60000 : Int32) = nI (N * 60000) := pk_mul N 60000
theorem nz_60000 : ((60000 : Int32) = 0) = False := eq_false (by decide)
theorem ml_2 {N : Nat} : (2 : Int32) * nI N = nI (2 * N) := pk_mul 2 N
theorem ml_3 {N : Nat} : (3 : Int32) * nI N = nI (3 * N) := pk_mul 3 N
theorem ml_4 {N : Nat} : (4 : Int32) * nI N = nI (4 * N) := pk_mul 4 N
theorem ml_5 {N : Nat} : (5 : Int32) * nI N = nI (5 * N) := pk_mul 5 N
theorem ml_6 {N : Nat} : (6 : Int32) * nI N = nI (6 * N) := pk_mul 6 N
theorem ml_7 {N : Nat} : (7 : Int32) * nI N = nI (7 * N) := pk_mul 7 N
theorem ml_8 {N : Nat} : (8 : Int32) * nI N = nI (8 * N) := pk_mul 8 N
theorem ml_9 {N : Nat} : (9 : Int32) * nI N = nI (9 * N) := pk_mul 9 N
theorem ml_10 {N : Nat} : (10 : Int32) * nI N = nI (10 * N) := pk_mul 10 N
theorem ml_11 {N : Nat} : (11 : Int32) * nI N = nI (11 * N) := pk_mul 11 N
theorem ml_12 {N : Nat} : (12 : Int32) * nI N = nI (12 * N) := pk_mul 12 N
theorem ml_13 {N : Nat} : (13 : Int32) * nI N = nI (13 * N) := pk_mul 13 N
theorem ml_16 {N : Nat} : (16 : Int32) * nI N = nI (16 * N) := pk_mul 16 N
theorem ml_22 {N : Nat} : (22 : Int32) * nI N = nI (22 * N) := pk_mul 22 N
theorem ml_23 {N : Nat} : (23 : Int32) * nI N = nI (23 * N) := pk_mul 23 N
theorem ml_26 {N : Nat} : (26 : Int32) * nI N = nI (26 * N) := pk_mul 26 N
theorem ml_32 {N : Nat} : (32 : Int32) * nI N = nI (32 * N) := pk_mul 32 N
theorem ml_48 {N : Nat} : (48 : Int32) * nI N = nI (48 * N) := pk_mul 48 N
theorem ml_81 {N : Nat} : (81 : Int32) * nI N = nI (81 * N) := pk_mul 81 N
theorem ml_100 {N : Nat} : (100 : Int32) * nI N = nI (100 * N) := pk_mul 100 N
theorem ml_101 {N : Nat} : (101 : Int32) * nI N = nI (101 * N) := pk_mul 101 N
theorem ml_102 {N : Nat} : (102 : Int32) * nI N = nI (102 * N) := pk_mul 102 N
theorem ml_128 {N : Nat} : (128 : Int32) * nI N = nI (128 * N) := pk_mul 128 N
theorem ml_256 {N : Nat} : (256 : Int32) * nI N = nI (256 * N) := pk_mul 256 N
theorem ml_2048 {N : Nat} : (2048 : Int32) * nI N = nI (2048 * N) := pk_mul 2048 N
theorem ml_4096 {N : Nat} : (4096 : Int32) * nI N = nI (4096 * N) := pk_mul 4096 N
theorem ml_60000 {N : Nat} : (60000 : Int32) * nI N = nI (60000 * N) := pk_mul 60000 N
theorem pl_14 {N : Nat} : nI N + (14 : Int32) = nI (N + 14) := nI_add N 14
theorem lp_14 {N : Nat} : (14 : Int32) + nI N = nI (14 + N) := nI_add 14 N
theorem qe_14 {N : Nat} (h : N < 2147483648) : (nI N = 14) = (N = 14) := propext (nI_eq (b := 14) h (by decide))
theorem qa_14 {N : Nat} (h : N < 2147483648) : (14 ≤ nI N) = (14 ≤ N) := propext (nI_leI (a := 14) (by decide) h)
theorem qb_14 {N : Nat} (h : N < 2147483648) : (nI N ≤ 14) = (N ≤ 14) := propext (nI_leI (b := 14) h (by decide))
theorem qc_14 {N : Nat} (h : N < 2147483648) : (14 < nI N) = (14 < N) := propext (nI_ltI (a := 14) (by decide) h)
theorem qd_14 {N : Nat} (h : N < 2147483648) : (nI N < 14) = (N < 14) := propext (nI_ltI (b := 14) h (by decide))
theorem pl_20 {N : Nat} : nI N + (20 : Int32) = nI (N + 20) := nI_add N 20
theorem lp_20 {N : Nat} : (20 : Int32) + nI N = nI (20 + N) := nI_add 20 N
theorem qe_20 {N : Nat} (h : N < 2147483648) : (nI N = 20) = (N = 20) := propext (nI_eq (b := 20) h (by decide))
theorem qa_20 {N : Nat} (h : N < 2147483648) : (20 ≤ nI N) = (20 ≤ N) := propext (nI_leI (a := 20) (by decide) h)
theorem qb_20 {N : Nat} (h : N < 2147483648) : (nI N ≤ 20) = (N ≤ 20) := propext (nI_leI (b := 20) h (by decide))
theorem qc_20 {N : Nat} (h : N < 2147483648) : (20 < nI N) = (20 < N) := propext (nI_ltI (a := 20) (by decide) h)
theorem qd_20 {N : Nat} (h : N < 2147483648) : (nI N < 20) = (N < 20) := propext (nI_ltI (b := 20) h (by decide))
theorem pl_21 {N : Nat} : nI N + (21 : Int32) = nI (N + 21) := nI_add N 21
theorem lp_21 {N : Nat} : (21 : Int32) + nI N = nI (21 + N) := nI_add 21 N
theorem qe_21 {N : Nat} (h : N < 2147483648) : (nI N = 21) = (N = 21) := propext (nI_eq (b := 21) h (by decide))
theorem qa_21 {N : Nat} (h : N < 2147483648) : (21 ≤ nI N) = (21 ≤ N) := propext (nI_leI (a := 21) (by decide) h)
theorem qb_21 {N : Nat} (h : N < 2147483648) : (nI N ≤ 21) = (N ≤ 21) := propext (nI_leI (b := 21) h (by decide))
theorem qc_21 {N : Nat} (h : N < 2147483648) : (21 < nI N) = (21 < N) := propext (nI_ltI (a := 21) (by decide) h)
theorem qd_21 {N : Nat} (h : N < 2147483648) : (nI N < 21) = (N < 21) := propext (nI_ltI (b := 21) h (by decide))
theorem pl_24 {N : Nat} : nI N + (24 : Int32) = nI (N + 24) := nI_add N 24
theorem lp_24 {N : Nat} : (24 : Int32) + nI N = nI (24 + N) := nI_add 24 N
theorem qe_24 {N : Nat} (h : N < 2147483648) : (nI N = 24) = (N = 24) := propext (nI_eq (b := 24) h (by decide))
theorem qa_24 {N : Nat} (h : N < 2147483648) : (24 ≤ nI N) = (24 ≤ N) := propext (nI_leI (a := 24) (by decide) h)
theorem qb_24 {N : Nat} (h : N < 2147483648) : (nI N ≤ 24) = (N ≤ 24) := propext (nI_leI (b := 24) h (by decide))
theorem qc_24 {N : Nat} (h : N < 2147483648) : (24 < nI N) = (24 < N) := propext (nI_ltI (a := 24) (by decide) h)
theorem qd_24 {N : Nat} (h : N < 2147483648) : (nI N < 24) = (N < 24) := propext (nI_ltI (b := 24) h (by decide))
theorem pl_26 {N : Nat} : nI N + (26 : Int32) = nI (N + 26) := nI_add N 26
theorem lp_26 {N : Nat} : (26 : Int32) + nI N = nI (26 + N) := nI_add 26 N
theorem qe_26 {N : Nat} (h : N < 2147483648) : (nI N = 26) = (N = 26) := propext (nI_eq (b := 26) h (by decide))
theorem qa_26 {N : Nat} (h : N < 2147483648) : (26 ≤ nI N) = (26 ≤ N) := propext (nI_leI (a := 26) (by decide) h)
theorem qb_26 {N : Nat} (h : N < 2147483648) : (nI N ≤ 26) = (N ≤ 26) := propext (nI_leI (b := 26) h (by decide))
theorem qc_26 {N : Nat} (h : N < 2147483648) : (26 < nI N) = (26 < N) := propext (nI_ltI (a := 26) (by decide) h)
theorem qd_26 {N : Nat} (h : N < 2147483648) : (nI N < 26) = (N < 26) := propext (nI_ltI (b := 26) h (by decide))
theorem pl_29 {N : Nat} : nI N + (29 : Int32) = nI (N + 29) := nI_add N 29
theorem lp_29 {N : Nat} : (29 : Int32) + nI N = nI (29 + N) := nI_add 29 N
theorem qe_29 {N : Nat} (h : N < 2147483648) : (nI N = 29) = (N = 29) := propext (nI_eq (b := 29) h (by decide))
theorem qa_29 {N : Nat} (h : N < 2147483648) : (29 ≤ nI N) = (29 ≤ N) := propext (nI_leI (a := 29) (by decide) h)
theorem qb_29 {N : Nat} (h : N < 2147483648) : (nI N ≤ 29) = (N ≤ 29) := propext (nI_leI (b := 29) h (by decide))
theorem qc_29 {N : Nat} (h : N < 2147483648) : (29 < nI N) = (29 < N) := propext (nI_ltI (a := 29) (by decide) h)
theorem qd_29 {N : Nat} (h : N < 2147483648) : (nI N < 29) = (N < 29) := propext (nI_ltI (b := 29) h (by decide))
theorem pl_35 {N : Nat} : nI N + (35 : Int32) = nI (N + 35) := nI_add N 35
theorem lp_35 {N : Nat} : (35 : Int32) + nI N = nI (35 + N) := nI_add 35 N
theorem qe_35 {N : Nat} (h : N < 2147483648) : (nI N = 35) = (N = 35) := propext (nI_eq (b := 35) h (by decide))
theorem qa_35 {N : Nat} (h : N < 2147483648) : (35 ≤ nI N) = (35 ≤ N) := propext (nI_leI (a := 35) (by decide) h)
theorem qb_35 {N : Nat} (h : N < 2147483648) : (nI N ≤ 35) = (N ≤ 35) := propext (nI_leI (b := 35) h (by decide))
theorem qc_35 {N : Nat} (h : N < 2147483648) : (35 < nI N) = (35 < N) := propext (nI_ltI (a := 35) (by decide) h)
theorem qd_35 {N : Nat} (h : N < 2147483648) : (nI N < 35) = (N < 35) := propext (nI_ltI (b := 35) h (by decide))
theorem pl_38 {N : Nat} : nI N + (38 : Int32) = nI (N + 38) := nI_add N 38
theorem lp_38 {N : Nat} : (38 : Int32) + nI N = nI (38 + N) := nI_add 38 N
theorem qe_38 {N : Nat} (h : N < 2147483648) : (nI N = 38) = (N = 38) := propext (nI_eq (b := 38) h (by decide))
theorem qa_38 {N : Nat} (h : N < 2147483648) : (38 ≤ nI N) = (38 ≤ N) := propext (nI_leI (a := 38) (by decide) h)
theorem qb_38 {N : Nat} (h : N < 2147483648) : (nI N ≤ 38) = (N ≤ 38) := propext (nI_leI (b := 38) h (by decide))
theorem qc_38 {N : Nat} (h : N < 2147483648) : (38 < nI N) = (38 < N) := propext (nI_ltI (a := 38) (by decide) h)
theorem qd_38 {N : Nat} (h : N < 2147483648) : (nI N < 38) = (N < 38) := propext (nI_ltI (b := 38) h (by decide))
theorem pl_48 {N : Nat} : nI N + (48 : Int32) = nI (N + 48) := nI_add N 48
theorem lp_48 {N : Nat} : (48 : Int32) + nI N = nI (48 + N) := nI_add 48 N
theorem qe_48 {N : Nat} (h : N < 2147483648) : (nI N = 48) = (N = 48) := propext (nI_eq (b := 48) h (by decide))
theorem qa_48 {N : Nat} (h : N < 2147483648) : (48 ≤ nI N) = (48 ≤ N) := propext (nI_leI (a := 48) (by decide) h)
theorem qb_48 {N : Nat} (h : N < 2147483648) : (nI N ≤ 48) = (N ≤ 48) := propext (nI_leI (b := 48) h (by decide))
theorem qc_48 {N : Nat} (h : N < 2147483648) : (48 < nI N) = (48 < N) := propext (nI_ltI (a := 48) (by decide) h)
theorem qd_48 {N : Nat} (h : N < 2147483648) : (nI N < 48) = (N < 48) := propext (nI_ltI (b := 48) h (by decide))
theorem pl_512 {N : Nat} : nI N + (512 : Int32) = nI (N + 512) := nI_add N 512
theorem lp_512 {N : Nat} : (512 : Int32) + nI N = nI (512 + N) := nI_add 512 N
theorem qe_512 {N : Nat} (h : N < 2147483648) : (nI N = 512) = (N = 512) := propext (nI_eq (b := 512) h (by decide))
theorem qa_512 {N : Nat} (h : N < 2147483648) : (512 ≤ nI N) = (512 ≤ N) := propext (nI_leI (a := 512) (by decide) h)
theorem qb_512 {N : Nat} (h : N < 2147483648) : (nI N ≤ 512) = (N ≤ 512) := propext (nI_leI (b := 512) h (by decide))
theorem qc_512 {N : Nat} (h : N < 2147483648) : (512 < nI N) = (512 < N) := propext (nI_ltI (a := 512) (by decide) h)
theorem qd_512 {N : Nat} (h : N < 2147483648) : (nI N < 512) = (N < 512) := propext (nI_ltI (b := 512) h (by decide))
theorem pl_128 {N : Nat} : nI N + (128 : Int32) = nI (N + 128) := nI_add N 128
theorem lp_128 {N : Nat} : (128 : Int32) + nI N = nI (128 + N) := nI_add 128 N
theorem qe_128 {N : Nat} (h : N < 2147483648) : (nI N = 128) = (N = 128) := propext (nI_eq (b := 128) h (by decide))
theorem qa_128 {N : Nat} (h : N < 2147483648) : (128 ≤ nI N) = (128 ≤ N) := propext (nI_leI (a := 128) (by decide) h)
theorem qb_128 {N : Nat} (h : N < 2147483648) : (nI N ≤ 128) = (N ≤ 128) := propext (nI_leI (b := 128) h (by decide))
theorem qc_128 {N : Nat} (h : N < 2147483648) : (128 < nI N) = (128 < N) := propext (nI_ltI (a := 128) (by decide) h)
theorem qd_128 {N : Nat} (h : N < 2147483648) : (nI N < 128) = (N < 128) := propext (nI_ltI (b := 128) h (by decide))
theorem pl_256 {N : Nat} : nI N + (256 : Int32) = nI (N + 256) := nI_add N 256
theorem lp_256 {N : Nat} : (256 : Int32) + nI N = nI (256 + N) := nI_add 256 N
theorem qe_256 {N : Nat} (h : N < 2147483648) : (nI N = 256) = (N = 256) := propext (nI_eq (b := 256) h (by decide))
theorem qa_256 {N : Nat} (h : N < 2147483648) : (256 ≤ nI N) = (256 ≤ N) := propext (nI_leI (a := 256) (by decide) h)
theorem qb_256 {N : Nat} (h : N < 2147483648) : (nI N ≤ 256) = (N ≤ 256) := propext (nI_leI (b := 256) h (by decide))
theorem qc_256 {N : Nat} (h : N < 2147483648) : (256 < nI N) = (256 < N) := propext (nI_ltI (a := 256) (by decide) h)
theorem qd_256 {N : Nat} (h : N < 2147483648) : (nI N < 256) = (N < 256) := propext (nI_ltI (b := 256) h (by decide))
theorem pl_2048 {N : Nat} : nI N + (2048 : Int32) = nI (N + 2048) := nI_add N 2048
theorem lp_2048 {N : Nat} : (2048 : Int32) + nI N = nI (2048 + N) := nI_add 2048 N
theorem qe_2048 {N : Nat} (h : N < 2147483648) : (nI N = 2048) = (N = 2048) := propext (nI_eq (b := 2048) h (by decide))
theorem qa_2048 {N : Nat} (h : N < 2147483648) : (2048 ≤ nI N) = (2048 ≤ N) := propext (nI_leI (a := 2048) (by decide) h)
theorem qb_2048 {N : Nat} (h : N < 2147483648) : (nI N ≤ 2048) = (N ≤ 2048) := propext (nI_leI (b := 2048) h (by decide))
theorem qc_2048 {N : Nat} (h : N < 2147483648) : (2048 < nI N) = (2048 < N) := propext (nI_ltI (a := 2048) (by decide) h)
theorem qd_2048 {N : Nat} (h : N < 2147483648) : (nI N < 2048) = (N < 2048) := propext (nI_ltI (b := 2048) h (by decide))
theorem pl_0 {N : Nat} : nI N + (0 : Int32) = nI (N + 0) := nI_add N 0
theorem lp_0 {N : Nat} : (0 : Int32) + nI N = nI (0 + N) := nI_add 0 N
theorem qe_0 {N : Nat} (h : N < 2147483648) : (nI N = 0) = (N = 0) := propext (nI_eq (b := 0) h (by decide))
theorem lp_1 {N : Nat} : (1 : Int32) + nI N = nI (1 + N) := nI_add 1 N
theorem qe_1 {N : Nat} (h : N < 2147483648) : (nI N = 1) = (N = 1) := propext (nI_eq (b := 1) h (by decide))
theorem qa_1 {N : Nat} (h : N < 2147483648) : (1 ≤ nI N) = (1 ≤ N) := propext (nI_leI (a := 1) (by decide) h)
theorem qb_1 {N : Nat} (h : N < 2147483648) : (nI N ≤ 1) = (N ≤ 1) := propext (nI_leI (b := 1) h (by decide))
theorem qc_1 {N : Nat} (h : N < 2147483648) : (1 < nI N) = (1 < N) := propext (nI_ltI (a := 1) (by decide) h)
theorem qd_1 {N : Nat} (h : N < 2147483648) : (nI N < 1) = (N < 1) := propext (nI_ltI (b := 1) h (by decide))
theorem pl_2 {N : Nat} : nI N + (2 : Int32) = nI (N + 2) := nI_add N 2
theorem lp_2 {N : Nat} : (2 : Int32) + nI N = nI (2 + N) := nI_add 2 N
theorem qe_2 {N : Nat} (h : N < 2147483648) : (nI N = 2) = (N = 2) := propext (nI_eq (b := 2) h (by decide))
theorem qa_2 {N : Nat} (h : N < 2147483648) : (2 ≤ nI N) = (2 ≤ N) := propext (nI_leI (a := 2) (by decide) h)
theorem qb_2 {N : Nat} (h : N < 2147483648) : (nI N ≤ 2) = (N ≤ 2) := propext (nI_leI (b := 2) h (by decide))
theorem qc_2 {N : Nat} (h : N < 2147483648) : (2 < nI N) = (2 < N) := propext (nI_ltI (a := 2) (by decide) h)
theorem qd_2 {N : Nat} (h : N < 2147483648) : (nI N < 2) = (N < 2) := propext (nI_ltI (b := 2) h (by decide))
theorem pl_3 {N : Nat} : nI N + (3 : Int32) = nI (N + 3) := nI_add N 3
theorem lp_3 {N : Nat} : (3 : Int32) + nI N = nI (3 + N) := nI_add 3 N
theorem qe_3 {N : Nat} (h : N < 2147483648) : (nI N = 3) = (N = 3) := propext (nI_eq (b := 3) h (by decide))
theorem qa_3 {N : Nat} (h : N < 2147483648) : (3 ≤ nI N) = (3 ≤ N) := propext (nI_leI (a := 3) (by decide) h)
theorem qb_3 {N : Nat} (h : N < 2147483648) : (nI N ≤ 3) = (N ≤ 3) := propext (nI_leI (b := 3) h (by decide))
theorem qc_3 {N : Nat} (h : N < 2147483648) : (3 < nI N) = (3 < N) := propext (nI_ltI (a := 3) (by decide) h)
theorem qd_3 {N : Nat} (h : N < 2147483648) : (nI N < 3) = (N < 3) := propext (nI_ltI (b := 3) h (by decide))
theorem pl_4 {N : Nat} : nI N + (4 : Int32) = nI (N + 4) := nI_add N 4
theorem lp_4 {N : Nat} : (4 : Int32) + nI N = nI (4 + N) := nI_add 4 N
theorem qe_4 {N : Nat} (h : N < 2147483648) : (nI N = 4) = (N = 4) := propext (nI_eq (b := 4) h (by decide))
theorem qa_4 {N : Nat} (h : N < 2147483648) : (4 ≤ nI N) = (4 ≤ N) := propext (nI_leI (a := 4) (by decide) h)
theorem qb_4 {N : Nat} (h : N < 2147483648) : (nI N ≤ 4) = (N ≤ 4) := propext (nI_leI (b := 4) h (by decide))
theorem qc_4 {N : Nat} (h : N < 2147483648) : (4 < nI N) = (4 < N) := propext (nI_ltI (a := 4) (by decide) h)
theorem qd_4 {N : Nat} (h : N < 2147483648) : (nI N < 4) = (N < 4) := propext (nI_ltI (b := 4) h (by decide))
theorem pl_5 {N : Nat} : nI N + (5 : Int32) = nI (N + 5) := nI_add N 5
theorem lp_5 {N : Nat} : (5 : Int32) + nI N = nI (5 + N) := nI_add 5 N
theorem qe_5 {N : Nat} (h : N < 2147483648) : (nI N = 5) = (N = 5) := propext (nI_eq (b := 5) h (by decide))
theorem qa_5 {N : Nat} (h : N < 2147483648) : (5 ≤ nI N) = (5 ≤ N) := propext (nI_leI (a := 5) (by decide) h)
theorem qb_5 {N : Nat} (h : N < 2147483648) : (nI N ≤ 5) = (N ≤ 5) := propext (nI_leI (b := 5) h (by decide))
theorem qc_5 {N : Nat} (h : N < 2147483648) : (5 < nI N) = (5 < N) := propext (nI_ltI (a := 5) (by decide) h)
theorem qd_5 {N : Nat} (h : N < 2147483648) : (nI N < 5) = (N < 5) := propext (nI_ltI (b := 5) h (by decide))
theorem pl_6 {N : Nat} : nI N + (6 : Int32) = nI (N + 6) := nI_add N 6
theorem lp_6 {N : Nat} : (6 : Int32) + nI N = nI (6 + N) := nI_add 6 N
theorem qe_6 {N : Nat} (h : N < 2147483648) : (nI N = 6) = (N = 6) := propext (nI_eq (b := 6) h (by decide))
theorem qa_6 {N : Nat} (h : N < 2147483648) : (6 ≤ nI N) = (6 ≤ N) := propext (nI_leI (a := 6) (by decide) h)
theorem qb_6 {N : Nat} (h : N < 2147483648) : (nI N ≤ 6) = (N ≤ 6) := propext (nI_leI (b := 6) h (by decide))
theorem qc_6 {N : Nat} (h : N < 2147483648) : (6 < nI N) = (6 < N) := propext (nI_ltI (a := 6) (by decide) h)
theorem qd_6 {N : Nat} (h : N < 2147483648) : (nI N < 6) = (N < 6) := propext (nI_ltI (b := 6) h (by decide))
theorem pl_7 {N : Nat} : nI N + (7 : Int32) = nI (N + 7) := nI_add N 7
theorem lp_7 {N : Nat} : (7 : Int32) + nI N = nI (7 + N) := nI_add 7 N
theorem qe_7 {N : Nat} (h : N < 2147483648) : (nI N = 7) = (N = 7) := propext (nI_eq (b := 7) h (by decide))
theorem qa_7 {N : Nat} (h : N < 2147483648) : (7 ≤ nI N) = (7 ≤ N) := propext (nI_leI (a := 7) (by decide) h)
theorem qb_7 {N : Nat} (h : N < 2147483648) : (nI N ≤ 7) = (N ≤ 7) := propext (nI_leI (b := 7) h (by decide))
theorem qc_7 {N : Nat} (h : N < 2147483648) : (7 < nI N) = (7 < N) := propext (nI_ltI (a := 7) (by decide) h)
theorem qd_7 {N : Nat} (h : N < 2147483648) : (nI N < 7) = (N < 7) := propext (nI_ltI (b := 7) h (by decide))
theorem pl_8 {N : Nat} : nI N + (8 : Int32) = nI (N + 8) := nI_add N 8
theorem lp_8 {N : Nat} : (8 : Int32) + nI N = nI (8 + N) := nI_add 8 N
theorem qe_8 {N : Nat} (h : N < 2147483648) : (nI N = 8) = (N = 8) := propext (nI_eq (b := 8) h (by decide))
theorem qa_8 {N : Nat} (h : N < 2147483648) : (8 ≤ nI N) = (8 ≤ N) := propext (nI_leI (a := 8) (by decide) h)
theorem qb_8 {N : Nat} (h : N < 2147483648) : (nI N ≤ 8) = (N ≤ 8) := propext (nI_leI (b := 8) h (by decide))
theorem qc_8 {N : Nat} (h : N < 2147483648) : (8 < nI N) = (8 < N) := propext (nI_ltI (a := 8) (by decide) h)
theorem qd_8 {N : Nat} (h : N < 2147483648) : (nI N < 8) = (N < 8) := propext (nI_ltI (b := 8) h (by decide))
theorem pl_9 {N : Nat} : nI N + (9 : Int32) = nI (N + 9) := nI_add N 9
theorem lp_9 {N : Nat} : (9 : Int32) + nI N = nI (9 + N) := nI_add 9 N
theorem qe_9 {N : Nat} (h : N < 2147483648) : (nI N = 9) = (N = 9) := propext (nI_eq (b := 9) h (by decide))
theorem qa_9 {N : Nat} (h : N < 2147483648) : (9 ≤ nI N) = (9 ≤ N) := propext (nI_leI (a := 9) (by decide) h)
theorem qb_9 {N : Nat} (h : N < 2147483648) : (nI N ≤ 9) = (N ≤ 9) := propext (nI_leI (b := 9) h (by decide))
theorem qc_9 {N : Nat} (h : N < 2147483648) : (9 < nI N) = (9 < N) := propext (nI_ltI (a := 9) (by decide) h)
theorem qd_9 {N : Nat} (h : N < 2147483648) : (nI N < 9) = (N < 9) := propext (nI_ltI (b := 9) h (by decide))
theorem pl_10 {N : Nat} : nI N + (10 : Int32) = nI (N + 10) := nI_add N 10
theorem lp_10 {N : Nat} : (10 : Int32) + nI N = nI (10 + N) := nI_add 10 N
theorem qe_10 {N : Nat} (h : N < 2147483648) : (nI N = 10) = (N = 10) := propext (nI_eq (b := 10) h (by decide))
theorem qa_10 {N : Nat} (h : N < 2147483648) : (10 ≤ nI N) = (10 ≤ N) := propext (nI_leI (a := 10) (by decide) h)
theorem qb_10 {N : Nat} (h : N < 2147483648) : (nI N ≤ 10) = (N ≤ 10) := propext (nI_leI (b := 10) h (by decide))
theorem qc_10 {N : Nat} (h : N < 2147483648) : (10 < nI N) = (10 < N) := propext (nI_ltI (a := 10) (by decide) h)
theorem qd_10 {N : Nat} (h : N < 2147483648) : (nI N < 10) = (N < 10) := propext (nI_ltI (b := 10) h (by decide))
theorem pl_11 {N : Nat} : nI N + (11 : Int32) = nI (N + 11) := nI_add N 11
theorem lp_11 {N : Nat} : (11 : Int32) + nI N = nI (11 + N) := nI_add 11 N
theorem qe_11 {N : Nat} (h : N < 2147483648) : (nI N = 11) = (N = 11) := propext (nI_eq (b := 11) h (by decide))
theorem qa_11 {N : Nat} (h : N < 2147483648) : (11 ≤ nI N) = (11 ≤ N) := propext (nI_leI (a := 11) (by decide) h)
theorem qb_11 {N : Nat} (h : N < 2147483648) : (nI N ≤ 11) = (N ≤ 11) := propext (nI_leI (b := 11) h (by decide))
theorem qc_11 {N : Nat} (h : N < 2147483648) : (11 < nI N) = (11 < N) := propext (nI_ltI (a := 11) (by decide) h)
theorem qd_11 {N : Nat} (h : N < 2147483648) : (nI N < 11) = (N < 11) := propext (nI_ltI (b := 11) h (by decide))
theorem pl_12 {N : Nat} : nI N + (12 : Int32) = nI (N + 12) := nI_add N 12
theorem lp_12 {N : Nat} : (12 : Int32) + nI N = nI (12 + N) := nI_add 12 N
theorem qe_12 {N : Nat} (h : N < 2147483648) : (nI N = 12) = (N = 12) := propext (nI_eq (b := 12) h (by decide))
theorem qa_12 {N : Nat} (h : N < 2147483648) : (12 ≤ nI N) = (12 ≤ N) := propext (nI_leI (a := 12) (by decide) h)
theorem qb_12 {N : Nat} (h : N < 2147483648) : (nI N ≤ 12) = (N ≤ 12) := propext (nI_leI (b := 12) h (by decide))
theorem qc_12 {N : Nat} (h : N < 2147483648) : (12 < nI N) = (12 < N) := propext (nI_ltI (a := 12) (by decide) h)
theorem qd_12 {N : Nat} (h : N < 2147483648) : (nI N < 12) = (N < 12) := propext (nI_ltI (b := 12) h (by decide))
theorem pl_16 {N : Nat} : nI N + (16 : Int32) = nI (N + 16) := nI_add N 16
theorem lp_16 {N : Nat} : (16 : Int32) + nI N = nI (16 + N) := nI_add 16 N
theorem qe_16 {N : Nat} (h : N < 2147483648) : (nI N = 16) = (N = 16) := propext (nI_eq (b := 16) h (by decide))
theorem qa_16 {N : Nat} (h : N < 2147483648) : (16 ≤ nI N) = (16 ≤ N) := propext (nI_leI (a := 16) (by decide) h)
theorem qb_16 {N : Nat} (h : N < 2147483648) : (nI N ≤ 16) = (N ≤ 16) := propext (nI_leI (b := 16) h (by decide))
theorem qc_16 {N : Nat} (h : N < 2147483648) : (16 < nI N) = (16 < N) := propext (nI_ltI (a := 16) (by decide) h)
theorem qd_16 {N : Nat} (h : N < 2147483648) : (nI N < 16) = (N < 16) := propext (nI_ltI (b := 16) h (by decide))
theorem pl_17 {N : Nat} : nI N + (17 : Int32) = nI (N + 17) := nI_add N 17
theorem lp_17 {N : Nat} : (17 : Int32) + nI N = nI (17 + N) := nI_add 17 N
theorem qe_17 {N : Nat} (h : N < 2147483648) : (nI N = 17) = (N = 17) := propext (nI_eq (b := 17) h (by decide))
theorem qa_17 {N : Nat} (h : N < 2147483648) : (17 ≤ nI N) = (17 ≤ N) := propext (nI_leI (a := 17) (by decide) h)
theorem qb_17 {N : Nat} (h : N < 2147483648) : (nI N ≤ 17) = (N ≤ 17) := propext (nI_leI (b := 17) h (by decide))
theorem qc_17 {N : Nat} (h : N < 2147483648) : (17 < nI N) = (17 < N) := propext (nI_ltI (a := 17) (by decide) h)
theorem qd_17 {N : Nat} (h : N < 2147483648) : (nI N < 17) = (N < 17) := propext (nI_ltI (b := 17) h (by decide))
theorem pl_18 {N : Nat} : nI N + (18 : Int32) = nI (N + 18) := nI_add N 18
theorem lp_18 {N : Nat} : (18 : Int32) + nI N = nI (18 + N) := nI_add 18 N
theorem qe_18 {N : Nat} (h : N < 2147483648) : (nI N = 18) = (N = 18) := propext (nI_eq (b := 18) h (by decide))
theorem qa_18 {N : Nat} (h : N < 2147483648) : (18 ≤ nI N) = (18 ≤ N) := propext (nI_leI (a := 18) (by decide) h)
theorem qb_18 {N : Nat} (h : N < 2147483648) : (nI N ≤ 18) = (N ≤ 18) := propext (nI_leI (b := 18) h (by decide))
theorem qc_18 {N : Nat} (h : N < 2147483648) : (18 < nI N) = (18 < N) := propext (nI_ltI (a := 18) (by decide) h)
theorem qd_18 {N : Nat} (h : N < 2147483648) : (nI N < 18) = (N < 18) := propext (nI_ltI (b := 18) h (by decide))
theorem pl_19 {N : Nat} : nI N + (19 : Int32) = nI (N + 19) := nI_add N 19
theorem lp_19 {N : Nat} : (19 : Int32) + nI N = nI (19 + N) := nI_add 19 N
theorem qe_19 {N : Nat} (h : N < 2147483648) : (nI N = 19) = (N = 19) := propext (nI_eq (b := 19) h (by decide))
theorem qa_19 {N : Nat} (h : N < 2147483648) : (19 ≤ nI N) = (19 ≤ N) := propext (nI_leI (a := 19) (by decide) h)
theorem qb_19 {N : Nat} (h : N < 2147483648) : (nI N ≤ 19) = (N ≤ 19) := propext (nI_leI (b := 19) h (by decide))
theorem qc_19 {N : Nat} (h : N < 2147483648) : (19 < nI N) = (19 < N) := propext (nI_ltI (a := 19) (by decide) h)
theorem qd_19 {N : Nat} (h : N < 2147483648) : (nI N < 19) = (N < 19) := propext (nI_ltI (b := 19) h (by decide))
theorem pl_22 {N : Nat} : nI N + (22 : Int32) = nI (N + 22) := nI_add N 22
theorem lp_22 {N : Nat} : (22 : Int32) + nI N = nI (22 + N) := nI_add 22 N
theorem qe_22 {N : Nat} (h : N < 2147483648) : (nI N = 22) = (N = 22) := propext (nI_eq (b := 22) h (by decide))
theorem qa_22 {N : Nat} (h : N < 2147483648) : (22 ≤ nI N) = (22 ≤ N) := propext (nI_leI (a := 22) (by decide) h)
theorem qb_22 {N : Nat} (h : N < 2147483648) : (nI N ≤ 22) = (N ≤ 22) := propext (nI_leI (b := 22) h (by decide))
theorem qc_22 {N : Nat} (h : N < 2147483648) : (22 < nI N) = (22 < N) := propext (nI_ltI (a := 22) (by decide) h)
theorem qd_22 {N : Nat} (h : N < 2147483648) : (nI N < 22) = (N < 22) := propext (nI_ltI (b := 22) h (by decide))
theorem pl_23 {N : Nat} : nI N + (23 : Int32) = nI (N + 23) := nI_add N 23
theorem lp_23 {N : Nat} : (23 : Int32) + nI N = nI (23 + N) := nI_add 23 N
theorem qe_23 {N : Nat} (h : N < 2147483648) : (nI N = 23) = (N = 23) := propext (nI_eq (b := 23) h (by decide))
theorem qa_23 {N : Nat} (h : N < 2147483648) : (23 ≤ nI N) = (23 ≤ N) := propext (nI_leI (a := 23) (by decide) h)
theorem qb_23 {N : Nat} (h : N < 2147483648) : (nI N ≤ 23) = (N ≤ 23) := propext (nI_leI (b := 23) h (by decide))
theorem qc_23 {N : Nat} (h : N < 2147483648) : (23 < nI N) = (23 < N) := propext (nI_ltI (a := 23) (by decide) h)
theorem qd_23 {N : Nat} (h : N < 2147483648) : (nI N < 23) = (N < 23) := propext (nI_ltI (b := 23) h (by decide))
theorem pl_27 {N : Nat} : nI N + (27 : Int32) = nI (N + 27) := nI_add N 27
theorem lp_27 {N : Nat} : (27 : Int32) + nI N = nI (27 + N) := nI_add 27 N
theorem qe_27 {N : Nat} (h : N < 2147483648) : (nI N = 27) = (N = 27) := propext (nI_eq (b := 27) h (by decide))
theorem qa_27 {N : Nat} (h : N < 2147483648) : (27 ≤ nI N) = (27 ≤ N) := propext (nI_leI (a := 27) (by decide) h)
theorem qb_27 {N : Nat} (h : N < 2147483648) : (nI N ≤ 27) = (N ≤ 27) := propext (nI_leI (b := 27) h (by decide))
theorem qc_27 {N : Nat} (h : N < 2147483648) : (27 < nI N) = (27 < N) := propext (nI_ltI (a := 27) (by decide) h)
theorem qd_27 {N : Nat} (h : N < 2147483648) : (nI N < 27) = (N < 27) := propext (nI_ltI (b := 27) h (by decide))
theorem pl_30 {N : Nat} : nI N + (30 : Int32) = nI (N + 30) := nI_add N 30
theorem lp_30 {N : Nat} : (30 : Int32) + nI N = nI (30 + N) := nI_add 30 N
theorem qe_30 {N : Nat} (h : N < 2147483648) : (nI N = 30) = (N = 30) := propext (nI_eq (b := 30) h (by decide))
theorem qa_30 {N : Nat} (h : N < 2147483648) : (30 ≤ nI N) = (30 ≤ N) := propext (nI_leI (a := 30) (by decide) h)
theorem qb_30 {N : Nat} (h : N < 2147483648) : (nI N ≤ 30) = (N ≤ 30) := propext (nI_leI (b := 30) h (by decide))
theorem qc_30 {N : Nat} (h : N < 2147483648) : (30 < nI N) = (30 < N) := propext (nI_ltI (a := 30) (by decide) h)
theorem qd_30 {N : Nat} (h : N < 2147483648) : (nI N < 30) = (N < 30) := propext (nI_ltI (b := 30) h (by decide))
theorem pl_31 {N : Nat} : nI N + (31 : Int32) = nI (N + 31) := nI_add N 31
theorem lp_31 {N : Nat} : (31 : Int32) + nI N = nI (31 + N) := nI_add 31 N
theorem qe_31 {N : Nat} (h : N < 2147483648) : (nI N = 31) = (N = 31) := propext (nI_eq (b := 31) h (by decide))
theorem qa_31 {N : Nat} (h : N < 2147483648) : (31 ≤ nI N) = (31 ≤ N) := propext (nI_leI (a := 31) (by decide) h)
theorem qb_31 {N : Nat} (h : N < 2147483648) : (nI N ≤ 31) = (N ≤ 31) := propext (nI_leI (b := 31) h (by decide))
theorem qc_31 {N : Nat} (h : N < 2147483648) : (31 < nI N) = (31 < N) := propext (nI_ltI (a := 31) (by decide) h)
theorem qd_31 {N : Nat} (h : N < 2147483648) : (nI N < 31) = (N < 31) := propext (nI_ltI (b := 31) h (by decide))
theorem pl_36 {N : Nat} : nI N + (36 : Int32) = nI (N + 36) := nI_add N 36
theorem lp_36 {N : Nat} : (36 : Int32) + nI N = nI (36 + N) := nI_add 36 N
theorem qe_36 {N : Nat} (h : N < 2147483648) : (nI N = 36) = (N = 36) := propext (nI_eq (b := 36) h (by decide))
theorem qa_36 {N : Nat} (h : N < 2147483648) : (36 ≤ nI N) = (36 ≤ N) := propext (nI_leI (a := 36) (by decide) h)
theorem qb_36 {N : Nat} (h : N < 2147483648) : (nI N ≤ 36) = (N ≤ 36) := propext (nI_leI (b := 36) h (by decide))
theorem qc_36 {N : Nat} (h : N < 2147483648) : (36 < nI N) = (36 < N) := propext (nI_ltI (a := 36) (by decide) h)
theorem qd_36 {N : Nat} (h : N < 2147483648) : (nI N < 36) = (N < 36) := propext (nI_ltI (b := 36) h (by decide))
theorem pl_60 {N : Nat} : nI N + (60 : Int32) = nI (N + 60) := nI_add N 60
theorem lp_60 {N : Nat} : (60 : Int32) + nI N = nI (60 + N) := nI_add 60 N
theorem qe_60 {N : Nat} (h : N < 2147483648) : (nI N = 60) = (N = 60) := propext (nI_eq (b := 60) h (by decide))
theorem qa_60 {N : Nat} (h : N < 2147483648) : (60 ≤ nI N) = (60 ≤ N) := propext (nI_leI (a := 60) (by decide) h)
theorem qb_60 {N : Nat} (h : N < 2147483648) : (nI N ≤ 60) = (N ≤ 60) := propext (nI_leI (b := 60) h (by decide))
theorem qc_60 {N : Nat} (h : N < 2147483648) : (60 < nI N) = (60 < N) := propext (nI_ltI (a := 60) (by decide) h)
theorem qd_60 {N : Nat} (h : N < 2147483648) : (nI N < 60) = (N < 60) := propext (nI_ltI (b := 60) h (by decide))
theorem pl_99 {N : Nat} : nI N + (99 : Int32) = nI (N + 99) := nI_add N 99
theorem lp_99 {N : Nat} : (99 : Int32) + nI N = nI (99 + N) := nI_add 99 N
theorem qe_99 {N : Nat} (h : N < 2147483648) : (nI N = 99) = (N = 99) := propext (nI_eq (b := 99) h (by decide))
theorem qa_99 {N : Nat} (h : N < 2147483648) : (99 ≤ nI N) = (99 ≤ N) := propext (nI_leI (a := 99) (by decide) h)
theorem qb_99 {N : Nat} (h : N < 2147483648) : (nI N ≤ 99) = (N ≤ 99) := propext (nI_leI (b := 99) h (by decide))
theorem qc_99 {N : Nat} (h : N < 2147483648) : (99 < nI N) = (99 < N) := propext (nI_ltI (a := 99) (by decide) h)
theorem qd_99 {N : Nat} (h : N < 2147483648) : (nI N < 99) = (N < 99) := propext (nI_ltI (b := 99) h (by decide))
theorem pl_100 {N : Nat} : nI N + (100 : Int32) = nI (N + 100) := nI_add N 100
theorem lp_100 {N : Nat} : (100 : Int32) + nI N = nI (100 + N) := nI_add 100 N
theorem qe_100 {N : Nat} (h : N < 2147483648) : (nI N = 100) = (N = 100) := propext (nI_eq (b := 100) h (by decide))
theorem qa_100 {N : Nat} (h : N < 2147483648) : (100 ≤ nI N) = (100 ≤ N) := propext (nI_leI (a := 100) (by decide) h)
theorem qb_100 {N : Nat} (h : N < 2147483648) : (nI N ≤ 100) = (N ≤ 100) := propext (nI_leI (b := 100) h (by decide))
theorem qc_100 {N : Nat} (h : N < 2147483648) : (100 < nI N) = (100 < N) := propext (nI_ltI (a := 100) (by decide) h)
theorem qd_100 {N : Nat} (h : N < 2147483648) : (nI N < 100) = (N < 100) := propext (nI_ltI (b := 100) h (by decide))
theorem pl_999 {N : Nat} : nI N + (999 : Int32) = nI (N + 999) := nI_add N 999
theorem lp_999 {N : Nat} : (999 : Int32) + nI N = nI (999 + N) := nI_add 999 N
theorem qe_999 {N : Nat} (h : N < 2147483648) : (nI N = 999) = (N = 999) := propext (nI_eq (b := 999) h (by decide))
theorem qa_999 {N : Nat} (h : N < 2147483648) : (999 ≤ nI N) = (999 ≤ N) := propext (nI_leI (a := 999) (by decide) h)
theorem qb_999 {N : Nat} (h : N < 2147483648) : (nI N ≤ 999) = (N ≤ 999) := propext (nI_leI (b := 999) h (by decide))
theorem qc_999 {N : Nat} (h : N < 2147483648) : (999 < nI N) = (999 < N) := propext (nI_ltI (a := 999) (by decide) h)
theorem qd_999 {N : Nat} (h : N < 2147483648) : (nI N < 999) = (N < 999) := propext (nI_ltI (b := 999) h (by decide))
theorem pl_1000 {N : Nat} : nI N + (1000 : Int32) = nI (N + 1000) := nI_add N 1000
theorem lp_1000 {N : Nat} : (1000 : Int32) + nI N = nI (1000 + N) := nI_add 1000 N
theorem qe_1000 {N : Nat} (h : N < 2147483648) : (nI N = 1000) = (N = 1000) := propext (nI_eq (b := 1000) h (by decide))
theorem qa_1000 {N : Nat} (h : N < 2147483648) : (1000 ≤ nI N) = (1000 ≤ N) := propext (nI_leI (a := 1000) (by decide) h)
theorem qb_1000 {N : Nat} (h : N < 2147483648) : (nI N ≤ 1000) = (N ≤ 1000) := propext (nI_leI (b := 1000) h (by decide))
theorem qc_1000 {N : Nat} (h : N < 2147483648) : (1000 < nI N) = (1000 < N) := propext (nI_ltI (a := 1000) (by decide) h)
theorem qd_1000 {N : Nat} (h : N < 2147483648) : (nI N < 1000) = (N < 1000) := propext (nI_ltI (b := 1000) h (by decide))
theorem qd_0 {N : Nat} (h : N < 2147483648) : (nI N < 0) = False := eq_false (nI_pos h)
theorem qa_0 {N : Nat} (h : N < 2147483648) : (0 ≤ nI N) = True := eq_true (nI_pos' h)
theorem qc_0 {N : Nat} (h : N < 2147483648) : (0 < nI N) = (0 < N) := propext (nI_ltI (a := 0) (by decide) h)
theorem qb_0 {N : Nat} (h : N < 2147483648) : (nI N ≤ 0) = (N = 0) := propext ((nI_leI (b := 0) h (by decide)).trans Nat.le_zero)
theorem nle {a b : Nat} (ha : a < 2147483648) (hb : b < 2147483648) : (nI a ≤ nI b) = (a ≤ b) := propext (nI_leI ha hb)
theorem nlt {a b : Nat} (ha : a < 2147483648) (hb : b < 2147483648) : (nI a < nI b) = (a < b) := propext (nI_ltI ha hb)
theorem neq {a b : Nat} (ha : a < 2147483648) (hb : b < 2147483648) : (nI a = nI b) = (a = b) := propext (nI_eq ha hb)
theorem ncl {n : Nat} (h : n < 2147483648) : (nI n).toNatClampNeg = n := nI_clamp h
theorem pd_1 {n : Nat} : nI (n + 1) - 1 = nI n := nI_pred n
/-- one less: nobody is -1 -/
theorem m1_p {h : Nat} : nI h - 1 + 1 = nI h := by rw [Int32.sub_add_cancel]
theorem m1_or {h : Nat} (hh : h < 2147483648) : (h = 0 ∧ nI h - 1 = -1) ∨ ∃ p, h = p + 1 ∧ p < 2147483648 ∧ nI h - 1 = nI p := by
  cases h with
  | zero => exact Or.inl ⟨rfl, by decide⟩
  | succ p => exact Or.inr ⟨p, rfl, by omega, nI_pred p⟩
theorem m1_lt {h : Nat} (hh : h < 2147483648) : (nI h - 1 < 0) = (h = 0) := by
  rcases m1_or hh with ⟨e, e2⟩ | ⟨p, e, hp, e2⟩
  · rw [e2, e]
    decide
  · rw [e2, e, qd_0 hp]
    simp
theorem m1_ge {h : Nat} (hh : h < 2147483648) : (0 ≤ nI h - 1) = (0 < h) := by
  rcases m1_or hh with ⟨e, e2⟩ | ⟨p, e, hp, e2⟩
  · rw [e2, e]
    decide
  · rw [e2, e, qa_0 hp]
    simp
theorem m1_no {h : Nat} (hh : h < 2147483648) : (nI h - 1 = -1) = (h = 0) := by
  rcases m1_or hh with ⟨e, e2⟩ | ⟨p, e, hp, e2⟩
  · rw [e2, e]
    decide
  · rw [e2, e]
    simp only [eq_false (nI_m1 hp)]
    simp
theorem m1_eq {h p : Nat} (hh : h < 2147483648) (hp : p < 2147483648) : (nI h - 1 = nI p) = (h = p + 1) := by
  rcases m1_or hh with ⟨e, e2⟩ | ⟨q, e, hq, e2⟩
  · rw [e2, e]
    simp only [eq_false (fun z => nI_m1 hp (Eq.symm z))]
    simp
  · rw [e2, e, neq hq hp]
    simp
theorem m1_mm {h p : Nat} (hh : h < 2147483648) (hp : p < 2147483648) : (nI h - 1 = nI p - 1) = (h = p) := by
  refine propext ⟨fun z => ?_, fun z => by rw [z]⟩
  have := congrArg (fun x => x + 1) z
  simp only [Int32.sub_add_cancel] at this
  exact (nI_eq hh hp).mp this
/-- two less: readings -/
theorem m2_or {v : Nat} (hv : v < 2147483648) : (v = 0 ∧ nI v - 2 = -2) ∨ (v = 1 ∧ nI v - 2 = -1) ∨ ∃ p, v = p + 2 ∧ p < 2147483648 ∧ nI v - 2 = nI p := by
  match v, hv with
  | 0, _ => exact Or.inl ⟨rfl, by decide⟩
  | 1, _ => exact Or.inr (Or.inl ⟨rfl, by decide⟩)
  | p + 2, hv =>
    refine Or.inr (Or.inr ⟨p, rfl, by omega, ?_⟩)
    have e : nI (p + 2) = nI p + 2 := (nI_add p 2).symm
    rw [e, Int32.add_sub_cancel]
theorem nI_m2 {k : Nat} (h : k < 2147483648) : ¬ nI k = -2 := by
  intro e
  have h1 := nI_toInt (n := k) h
  rw [e] at h1
  have : (-2 : Int32).toInt = -2 := by decide
  omega
theorem m2_lt {v : Nat} (hv : v < 2147483648) : (nI v - 2 < 0) = (v < 2) := by
  rcases m2_or hv with ⟨e, e2⟩ | ⟨e, e2⟩ | ⟨p, e, hp, e2⟩
  · rw [e2, e]
    decide
  · rw [e2, e]
    decide
  · rw [e2, e, qd_0 hp]
    simp
theorem m2_ge {v : Nat} (hv : v < 2147483648) : (0 ≤ nI v - 2) = (2 ≤ v) := by
  rcases m2_or hv with ⟨e, e2⟩ | ⟨e, e2⟩ | ⟨p, e, hp, e2⟩
  · rw [e2, e]
    decide
  · rw [e2, e]
    decide
  · rw [e2, e, qa_0 hp]
    simp
theorem m2_b {v : Nat} (hv : v < 2147483648) : (nI v - 2 = -1) = (v = 1) := by
  rcases m2_or hv with ⟨e, e2⟩ | ⟨e, e2⟩ | ⟨p, e, hp, e2⟩
  · rw [e2, e]
    decide
  · rw [e2, e]
    decide
  · rw [e2, e]
    simp only [eq_false (nI_m1 hp)]
    simp
theorem m2_o {v : Nat} (hv : v < 2147483648) : (nI v - 2 = -2) = (v = 0) := by
  rcases m2_or hv with ⟨e, e2⟩ | ⟨e, e2⟩ | ⟨p, e, hp, e2⟩
  · rw [e2, e]
    decide
  · rw [e2, e]
    decide
  · rw [e2, e]
    simp only [eq_false (nI_m2 hp)]
    simp
theorem m2_mm {h p : Nat} (hh : h < 2147483648) (hp : p < 2147483648) : (nI h - 2 = nI p - 2) = (h = p) := by
  refine propext ⟨fun z => ?_, fun z => by rw [z]⟩
  have := congrArg (fun x => x + 2) z
  simp only [Int32.sub_add_cancel] at this
  exact (nI_eq hh hp).mp this
theorem m2_eq {h p : Nat} (hh : h < 2147483648) (hp : p + 2 < 2147483648) : (nI h - 2 = nI p) = (h = p + 2) := by
  have e : nI p = nI (p + 2) - 2 := by
    rw [(nI_add p 2).symm]
    exact (Int32.add_sub_cancel _ _).symm
  rw [e, m2_mm hh hp]
theorem m2_p {p : Nat} : nI (p + 2) - 2 = nI p := by
  rw [(nI_add p 2).symm]
  exact Int32.add_sub_cancel _ _
theorem sh1 {x : Int32} {k : Nat} (hk : k < 31) : (x >>> (nI k &&& 31)) &&& 1 = if bt x k = true then 1 else 0 := by
  cases h : bt x k with
  | true => exact (holds_bit hk).mpr h
  | false =>
    rw [if_neg Bool.false_ne_true]
    have h1 : ∀ j, j < 32 → bt 1 j = decide (j = 0) := by decide +kernel
    apply b_ext
    intro i hi
    rw [b_and, b_sshr k (by omega) x hi, h1 i hi, b_0]
    by_cases e : i = 0
    · subst e
      rw [if_pos (by omega), Nat.add_zero, h]
      rfl
    · simp [e]
theorem sh0 {x : Int32} {k : Nat} (hk : k < 31) : ((x >>> (nI k &&& 31)) &&& 1 = 0) = (bt x k = false) := by
  rw [sh1 hk]
  cases bt x k <;> decide
theorem sh11 {x : Int32} {k : Nat} (hk : k < 31) : ((x >>> (nI k &&& 31)) &&& 1 = 1) = (bt x k = true) := by
  rw [sh1 hk]
  cases bt x k <;> decide
theorem bI_0 {p : Nat} : (1 : Int32) <<< (nI p &&& 31) = bitI (nI p) := id rfl
