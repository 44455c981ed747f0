-- ===== CSR: reading and writing =====
theorem bc_924074 : bt 924074 0 = false ∧ bt 924074 1 = true ∧ bt 924074 2 = false ∧ bt 924074 3 = true ∧ bt 924074 4 = false ∧ bt 924074 5 = true ∧ bt 924074 6 = false ∧ bt 924074 7 = true ∧ bt 924074 8 = true ∧ bt 924074 9 = false ∧ bt 924074 10 = false ∧ bt 924074 11 = true ∧ bt 924074 12 = true ∧ bt 924074 13 = false ∧ bt 924074 14 = false ∧ bt 924074 15 = false ∧ bt 924074 16 = false ∧ bt 924074 17 = true ∧ bt 924074 18 = true ∧ bt 924074 19 = true ∧ bt 924074 20 = false ∧ bt 924074 21 = false ∧ bt 924074 22 = false ∧ bt 924074 23 = false ∧ bt 924074 24 = false ∧ bt 924074 25 = false ∧ bt 924074 26 = false ∧ bt 924074 27 = false ∧ bt 924074 28 = false ∧ bt 924074 29 = false ∧ bt 924074 30 = false ∧ bt 924074 31 = false := by decide +kernel
theorem bc_m924075 : bt (-924075) 0 = true ∧ bt (-924075) 1 = false ∧ bt (-924075) 2 = true ∧ bt (-924075) 3 = false ∧ bt (-924075) 4 = true ∧ bt (-924075) 5 = false ∧ bt (-924075) 6 = true ∧ bt (-924075) 7 = false ∧ bt (-924075) 8 = false ∧ bt (-924075) 9 = true ∧ bt (-924075) 10 = true ∧ bt (-924075) 11 = false ∧ bt (-924075) 12 = false ∧ bt (-924075) 13 = true ∧ bt (-924075) 14 = true ∧ bt (-924075) 15 = true ∧ bt (-924075) 16 = true ∧ bt (-924075) 17 = false ∧ bt (-924075) 18 = false ∧ bt (-924075) 19 = false ∧ bt (-924075) 20 = true ∧ bt (-924075) 21 = true ∧ bt (-924075) 22 = true ∧ bt (-924075) 23 = true ∧ bt (-924075) 24 = true ∧ bt (-924075) 25 = true ∧ bt (-924075) 26 = true ∧ bt (-924075) 27 = true ∧ bt (-924075) 28 = true ∧ bt (-924075) 29 = true ∧ bt (-924075) 30 = true ∧ bt (-924075) 31 = true := by decide +kernel
theorem bc_6144 : bt 6144 0 = false ∧ bt 6144 1 = false ∧ bt 6144 2 = false ∧ bt 6144 3 = false ∧ bt 6144 4 = false ∧ bt 6144 5 = false ∧ bt 6144 6 = false ∧ bt 6144 7 = false ∧ bt 6144 8 = false ∧ bt 6144 9 = false ∧ bt 6144 10 = false ∧ bt 6144 11 = true ∧ bt 6144 12 = true ∧ bt 6144 13 = false ∧ bt 6144 14 = false ∧ bt 6144 15 = false ∧ bt 6144 16 = false ∧ bt 6144 17 = false ∧ bt 6144 18 = false ∧ bt 6144 19 = false ∧ bt 6144 20 = false ∧ bt 6144 21 = false ∧ bt 6144 22 = false ∧ bt 6144 23 = false ∧ bt 6144 24 = false ∧ bt 6144 25 = false ∧ bt 6144 26 = false ∧ bt 6144 27 = false ∧ bt 6144 28 = false ∧ bt 6144 29 = false ∧ bt 6144 30 = false ∧ bt 6144 31 = false := by decide +kernel
theorem bc_4096 : bt 4096 0 = false ∧ bt 4096 1 = false ∧ bt 4096 2 = false ∧ bt 4096 3 = false ∧ bt 4096 4 = false ∧ bt 4096 5 = false ∧ bt 4096 6 = false ∧ bt 4096 7 = false ∧ bt 4096 8 = false ∧ bt 4096 9 = false ∧ bt 4096 10 = false ∧ bt 4096 11 = false ∧ bt 4096 12 = true ∧ bt 4096 13 = false ∧ bt 4096 14 = false ∧ bt 4096 15 = false ∧ bt 4096 16 = false ∧ bt 4096 17 = false ∧ bt 4096 18 = false ∧ bt 4096 19 = false ∧ bt 4096 20 = false ∧ bt 4096 21 = false ∧ bt 4096 22 = false ∧ bt 4096 23 = false ∧ bt 4096 24 = false ∧ bt 4096 25 = false ∧ bt 4096 26 = false ∧ bt 4096 27 = false ∧ bt 4096 28 = false ∧ bt 4096 29 = false ∧ bt 4096 30 = false ∧ bt 4096 31 = false := by decide +kernel
theorem bc_m6145 : bt (-6145) 0 = true ∧ bt (-6145) 1 = true ∧ bt (-6145) 2 = true ∧ bt (-6145) 3 = true ∧ bt (-6145) 4 = true ∧ bt (-6145) 5 = true ∧ bt (-6145) 6 = true ∧ bt (-6145) 7 = true ∧ bt (-6145) 8 = true ∧ bt (-6145) 9 = true ∧ bt (-6145) 10 = true ∧ bt (-6145) 11 = false ∧ bt (-6145) 12 = false ∧ bt (-6145) 13 = true ∧ bt (-6145) 14 = true ∧ bt (-6145) 15 = true ∧ bt (-6145) 16 = true ∧ bt (-6145) 17 = true ∧ bt (-6145) 18 = true ∧ bt (-6145) 19 = true ∧ bt (-6145) 20 = true ∧ bt (-6145) 21 = true ∧ bt (-6145) 22 = true ∧ bt (-6145) 23 = true ∧ bt (-6145) 24 = true ∧ bt (-6145) 25 = true ∧ bt (-6145) 26 = true ∧ bt (-6145) 27 = true ∧ bt (-6145) 28 = true ∧ bt (-6145) 29 = true ∧ bt (-6145) 30 = true ∧ bt (-6145) 31 = true := by decide +kernel
theorem bc_786722 : bt 786722 0 = false ∧ bt 786722 1 = true ∧ bt 786722 2 = false ∧ bt 786722 3 = false ∧ bt 786722 4 = false ∧ bt 786722 5 = true ∧ bt 786722 6 = false ∧ bt 786722 7 = false ∧ bt 786722 8 = true ∧ bt 786722 9 = false ∧ bt 786722 10 = false ∧ bt 786722 11 = false ∧ bt 786722 12 = false ∧ bt 786722 13 = false ∧ bt 786722 14 = false ∧ bt 786722 15 = false ∧ bt 786722 16 = false ∧ bt 786722 17 = false ∧ bt 786722 18 = true ∧ bt 786722 19 = true ∧ bt 786722 20 = false ∧ bt 786722 21 = false ∧ bt 786722 22 = false ∧ bt 786722 23 = false ∧ bt 786722 24 = false ∧ bt 786722 25 = false ∧ bt 786722 26 = false ∧ bt 786722 27 = false ∧ bt 786722 28 = false ∧ bt 786722 29 = false ∧ bt 786722 30 = false ∧ bt 786722 31 = false := by decide +kernel
theorem bc_m786723 : bt (-786723) 0 = true ∧ bt (-786723) 1 = false ∧ bt (-786723) 2 = true ∧ bt (-786723) 3 = true ∧ bt (-786723) 4 = true ∧ bt (-786723) 5 = false ∧ bt (-786723) 6 = true ∧ bt (-786723) 7 = true ∧ bt (-786723) 8 = false ∧ bt (-786723) 9 = true ∧ bt (-786723) 10 = true ∧ bt (-786723) 11 = true ∧ bt (-786723) 12 = true ∧ bt (-786723) 13 = true ∧ bt (-786723) 14 = true ∧ bt (-786723) 15 = true ∧ bt (-786723) 16 = true ∧ bt (-786723) 17 = true ∧ bt (-786723) 18 = false ∧ bt (-786723) 19 = false ∧ bt (-786723) 20 = true ∧ bt (-786723) 21 = true ∧ bt (-786723) 22 = true ∧ bt (-786723) 23 = true ∧ bt (-786723) 24 = true ∧ bt (-786723) 25 = true ∧ bt (-786723) 26 = true ∧ bt (-786723) 27 = true ∧ bt (-786723) 28 = true ∧ bt (-786723) 29 = true ∧ bt (-786723) 30 = true ∧ bt (-786723) 31 = true := by decide +kernel
theorem bc_46079 : bt 46079 0 = true ∧ bt 46079 1 = true ∧ bt 46079 2 = true ∧ bt 46079 3 = true ∧ bt 46079 4 = true ∧ bt 46079 5 = true ∧ bt 46079 6 = true ∧ bt 46079 7 = true ∧ bt 46079 8 = true ∧ bt 46079 9 = true ∧ bt 46079 10 = false ∧ bt 46079 11 = false ∧ bt 46079 12 = true ∧ bt 46079 13 = true ∧ bt 46079 14 = false ∧ bt 46079 15 = true ∧ bt 46079 16 = false ∧ bt 46079 17 = false ∧ bt 46079 18 = false ∧ bt 46079 19 = false ∧ bt 46079 20 = false ∧ bt 46079 21 = false ∧ bt 46079 22 = false ∧ bt 46079 23 = false ∧ bt 46079 24 = false ∧ bt 46079 25 = false ∧ bt 46079 26 = false ∧ bt 46079 27 = false ∧ bt 46079 28 = false ∧ bt 46079 29 = false ∧ bt 46079 30 = false ∧ bt 46079 31 = false := by decide +kernel
theorem bc_m46080 : bt (-46080) 0 = false ∧ bt (-46080) 1 = false ∧ bt (-46080) 2 = false ∧ bt (-46080) 3 = false ∧ bt (-46080) 4 = false ∧ bt (-46080) 5 = false ∧ bt (-46080) 6 = false ∧ bt (-46080) 7 = false ∧ bt (-46080) 8 = false ∧ bt (-46080) 9 = false ∧ bt (-46080) 10 = true ∧ bt (-46080) 11 = true ∧ bt (-46080) 12 = false ∧ bt (-46080) 13 = false ∧ bt (-46080) 14 = true ∧ bt (-46080) 15 = false ∧ bt (-46080) 16 = true ∧ bt (-46080) 17 = true ∧ bt (-46080) 18 = true ∧ bt (-46080) 19 = true ∧ bt (-46080) 20 = true ∧ bt (-46080) 21 = true ∧ bt (-46080) 22 = true ∧ bt (-46080) 23 = true ∧ bt (-46080) 24 = true ∧ bt (-46080) 25 = true ∧ bt (-46080) 26 = true ∧ bt (-46080) 27 = true ∧ bt (-46080) 28 = true ∧ bt (-46080) 29 = true ∧ bt (-46080) 30 = true ∧ bt (-46080) 31 = true := by decide +kernel
theorem bc_546 : bt 546 0 = false ∧ bt 546 1 = true ∧ bt 546 2 = false ∧ bt 546 3 = false ∧ bt 546 4 = false ∧ bt 546 5 = true ∧ bt 546 6 = false ∧ bt 546 7 = false ∧ bt 546 8 = false ∧ bt 546 9 = true ∧ bt 546 10 = false ∧ bt 546 11 = false ∧ bt 546 12 = false ∧ bt 546 13 = false ∧ bt 546 14 = false ∧ bt 546 15 = false ∧ bt 546 16 = false ∧ bt 546 17 = false ∧ bt 546 18 = false ∧ bt 546 19 = false ∧ bt 546 20 = false ∧ bt 546 21 = false ∧ bt 546 22 = false ∧ bt 546 23 = false ∧ bt 546 24 = false ∧ bt 546 25 = false ∧ bt 546 26 = false ∧ bt 546 27 = false ∧ bt 546 28 = false ∧ bt 546 29 = false ∧ bt 546 30 = false ∧ bt 546 31 = false := by decide +kernel
theorem bc_m547 : bt (-547) 0 = true ∧ bt (-547) 1 = false ∧ bt (-547) 2 = true ∧ bt (-547) 3 = true ∧ bt (-547) 4 = true ∧ bt (-547) 5 = false ∧ bt (-547) 6 = true ∧ bt (-547) 7 = true ∧ bt (-547) 8 = true ∧ bt (-547) 9 = false ∧ bt (-547) 10 = true ∧ bt (-547) 11 = true ∧ bt (-547) 12 = true ∧ bt (-547) 13 = true ∧ bt (-547) 14 = true ∧ bt (-547) 15 = true ∧ bt (-547) 16 = true ∧ bt (-547) 17 = true ∧ bt (-547) 18 = true ∧ bt (-547) 19 = true ∧ bt (-547) 20 = true ∧ bt (-547) 21 = true ∧ bt (-547) 22 = true ∧ bt (-547) 23 = true ∧ bt (-547) 24 = true ∧ bt (-547) 25 = true ∧ bt (-547) 26 = true ∧ bt (-547) 27 = true ∧ bt (-547) 28 = true ∧ bt (-547) 29 = true ∧ bt (-547) 30 = true ∧ bt (-547) 31 = true := by decide +kernel
theorem bc_2730 : bt 2730 0 = false ∧ bt 2730 1 = true ∧ bt 2730 2 = false ∧ bt 2730 3 = true ∧ bt 2730 4 = false ∧ bt 2730 5 = true ∧ bt 2730 6 = false ∧ bt 2730 7 = true ∧ bt 2730 8 = false ∧ bt 2730 9 = true ∧ bt 2730 10 = false ∧ bt 2730 11 = true ∧ bt 2730 12 = false ∧ bt 2730 13 = false ∧ bt 2730 14 = false ∧ bt 2730 15 = false ∧ bt 2730 16 = false ∧ bt 2730 17 = false ∧ bt 2730 18 = false ∧ bt 2730 19 = false ∧ bt 2730 20 = false ∧ bt 2730 21 = false ∧ bt 2730 22 = false ∧ bt 2730 23 = false ∧ bt 2730 24 = false ∧ bt 2730 25 = false ∧ bt 2730 26 = false ∧ bt 2730 27 = false ∧ bt 2730 28 = false ∧ bt 2730 29 = false ∧ bt 2730 30 = false ∧ bt 2730 31 = false := by decide +kernel
theorem bc_m2731 : bt (-2731) 0 = true ∧ bt (-2731) 1 = false ∧ bt (-2731) 2 = true ∧ bt (-2731) 3 = false ∧ bt (-2731) 4 = true ∧ bt (-2731) 5 = false ∧ bt (-2731) 6 = true ∧ bt (-2731) 7 = false ∧ bt (-2731) 8 = true ∧ bt (-2731) 9 = false ∧ bt (-2731) 10 = true ∧ bt (-2731) 11 = false ∧ bt (-2731) 12 = true ∧ bt (-2731) 13 = true ∧ bt (-2731) 14 = true ∧ bt (-2731) 15 = true ∧ bt (-2731) 16 = true ∧ bt (-2731) 17 = true ∧ bt (-2731) 18 = true ∧ bt (-2731) 19 = true ∧ bt (-2731) 20 = true ∧ bt (-2731) 21 = true ∧ bt (-2731) 22 = true ∧ bt (-2731) 23 = true ∧ bt (-2731) 24 = true ∧ bt (-2731) 25 = true ∧ bt (-2731) 26 = true ∧ bt (-2731) 27 = true ∧ bt (-2731) 28 = true ∧ bt (-2731) 29 = true ∧ bt (-2731) 30 = true ∧ bt (-2731) 31 = true := by decide +kernel
theorem bc_2 : bt 2 0 = false ∧ bt 2 1 = true ∧ bt 2 2 = false ∧ bt 2 3 = false ∧ bt 2 4 = false ∧ bt 2 5 = false ∧ bt 2 6 = false ∧ bt 2 7 = false ∧ bt 2 8 = false ∧ bt 2 9 = false ∧ bt 2 10 = false ∧ bt 2 11 = false ∧ bt 2 12 = false ∧ bt 2 13 = false ∧ bt 2 14 = false ∧ bt 2 15 = false ∧ bt 2 16 = false ∧ bt 2 17 = false ∧ bt 2 18 = false ∧ bt 2 19 = false ∧ bt 2 20 = false ∧ bt 2 21 = false ∧ bt 2 22 = false ∧ bt 2 23 = false ∧ bt 2 24 = false ∧ bt 2 25 = false ∧ bt 2 26 = false ∧ bt 2 27 = false ∧ bt 2 28 = false ∧ bt 2 29 = false ∧ bt 2 30 = false ∧ bt 2 31 = false := by decide +kernel
theorem bc_8 : bt 8 0 = false ∧ bt 8 1 = false ∧ bt 8 2 = false ∧ bt 8 3 = true ∧ bt 8 4 = false ∧ bt 8 5 = false ∧ bt 8 6 = false ∧ bt 8 7 = false ∧ bt 8 8 = false ∧ bt 8 9 = false ∧ bt 8 10 = false ∧ bt 8 11 = false ∧ bt 8 12 = false ∧ bt 8 13 = false ∧ bt 8 14 = false ∧ bt 8 15 = false ∧ bt 8 16 = false ∧ bt 8 17 = false ∧ bt 8 18 = false ∧ bt 8 19 = false ∧ bt 8 20 = false ∧ bt 8 21 = false ∧ bt 8 22 = false ∧ bt 8 23 = false ∧ bt 8 24 = false ∧ bt 8 25 = false ∧ bt 8 26 = false ∧ bt 8 27 = false ∧ bt 8 28 = false ∧ bt 8 29 = false ∧ bt 8 30 = false ∧ bt 8 31 = false := by decide +kernel
theorem bc_128 : bt 128 0 = false ∧ bt 128 1 = false ∧ bt 128 2 = false ∧ bt 128 3 = false ∧ bt 128 4 = false ∧ bt 128 5 = false ∧ bt 128 6 = false ∧ bt 128 7 = true ∧ bt 128 8 = false ∧ bt 128 9 = false ∧ bt 128 10 = false ∧ bt 128 11 = false ∧ bt 128 12 = false ∧ bt 128 13 = false ∧ bt 128 14 = false ∧ bt 128 15 = false ∧ bt 128 16 = false ∧ bt 128 17 = false ∧ bt 128 18 = false ∧ bt 128 19 = false ∧ bt 128 20 = false ∧ bt 128 21 = false ∧ bt 128 22 = false ∧ bt 128 23 = false ∧ bt 128 24 = false ∧ bt 128 25 = false ∧ bt 128 26 = false ∧ bt 128 27 = false ∧ bt 128 28 = false ∧ bt 128 29 = false ∧ bt 128 30 = false ∧ bt 128 31 = false := by decide +kernel
theorem bc_136 : bt 136 0 = false ∧ bt 136 1 = false ∧ bt 136 2 = false ∧ bt 136 3 = true ∧ bt 136 4 = false ∧ bt 136 5 = false ∧ bt 136 6 = false ∧ bt 136 7 = true ∧ bt 136 8 = false ∧ bt 136 9 = false ∧ bt 136 10 = false ∧ bt 136 11 = false ∧ bt 136 12 = false ∧ bt 136 13 = false ∧ bt 136 14 = false ∧ bt 136 15 = false ∧ bt 136 16 = false ∧ bt 136 17 = false ∧ bt 136 18 = false ∧ bt 136 19 = false ∧ bt 136 20 = false ∧ bt 136 21 = false ∧ bt 136 22 = false ∧ bt 136 23 = false ∧ bt 136 24 = false ∧ bt 136 25 = false ∧ bt 136 26 = false ∧ bt 136 27 = false ∧ bt 136 28 = false ∧ bt 136 29 = false ∧ bt 136 30 = false ∧ bt 136 31 = false := by decide +kernel
theorem bc_131072 : bt 131072 0 = false ∧ bt 131072 1 = false ∧ bt 131072 2 = false ∧ bt 131072 3 = false ∧ bt 131072 4 = false ∧ bt 131072 5 = false ∧ bt 131072 6 = false ∧ bt 131072 7 = false ∧ bt 131072 8 = false ∧ bt 131072 9 = false ∧ bt 131072 10 = false ∧ bt 131072 11 = false ∧ bt 131072 12 = false ∧ bt 131072 13 = false ∧ bt 131072 14 = false ∧ bt 131072 15 = false ∧ bt 131072 16 = false ∧ bt 131072 17 = true ∧ bt 131072 18 = false ∧ bt 131072 19 = false ∧ bt 131072 20 = false ∧ bt 131072 21 = false ∧ bt 131072 22 = false ∧ bt 131072 23 = false ∧ bt 131072 24 = false ∧ bt 131072 25 = false ∧ bt 131072 26 = false ∧ bt 131072 27 = false ∧ bt 131072 28 = false ∧ bt 131072 29 = false ∧ bt 131072 30 = false ∧ bt 131072 31 = false := by decide +kernel
theorem bc_m2143289345 : bt (-2143289345) 0 = true ∧ bt (-2143289345) 1 = true ∧ bt (-2143289345) 2 = true ∧ bt (-2143289345) 3 = true ∧ bt (-2143289345) 4 = true ∧ bt (-2143289345) 5 = true ∧ bt (-2143289345) 6 = true ∧ bt (-2143289345) 7 = true ∧ bt (-2143289345) 8 = true ∧ bt (-2143289345) 9 = true ∧ bt (-2143289345) 10 = true ∧ bt (-2143289345) 11 = true ∧ bt (-2143289345) 12 = true ∧ bt (-2143289345) 13 = true ∧ bt (-2143289345) 14 = true ∧ bt (-2143289345) 15 = true ∧ bt (-2143289345) 16 = true ∧ bt (-2143289345) 17 = true ∧ bt (-2143289345) 18 = true ∧ bt (-2143289345) 19 = true ∧ bt (-2143289345) 20 = true ∧ bt (-2143289345) 21 = true ∧ bt (-2143289345) 22 = false ∧ bt (-2143289345) 23 = false ∧ bt (-2143289345) 24 = false ∧ bt (-2143289345) 25 = false ∧ bt (-2143289345) 26 = false ∧ bt (-2143289345) 27 = false ∧ bt (-2143289345) 28 = false ∧ bt (-2143289345) 29 = false ∧ bt (-2143289345) 30 = false ∧ bt (-2143289345) 31 = true := by decide +kernel
theorem bc_2143289344 : bt 2143289344 0 = false ∧ bt 2143289344 1 = false ∧ bt 2143289344 2 = false ∧ bt 2143289344 3 = false ∧ bt 2143289344 4 = false ∧ bt 2143289344 5 = false ∧ bt 2143289344 6 = false ∧ bt 2143289344 7 = false ∧ bt 2143289344 8 = false ∧ bt 2143289344 9 = false ∧ bt 2143289344 10 = false ∧ bt 2143289344 11 = false ∧ bt 2143289344 12 = false ∧ bt 2143289344 13 = false ∧ bt 2143289344 14 = false ∧ bt 2143289344 15 = false ∧ bt 2143289344 16 = false ∧ bt 2143289344 17 = false ∧ bt 2143289344 18 = false ∧ bt 2143289344 19 = false ∧ bt 2143289344 20 = false ∧ bt 2143289344 21 = false ∧ bt 2143289344 22 = true ∧ bt 2143289344 23 = true ∧ bt 2143289344 24 = true ∧ bt 2143289344 25 = true ∧ bt 2143289344 26 = true ∧ bt 2143289344 27 = true ∧ bt 2143289344 28 = true ∧ bt 2143289344 29 = true ∧ bt 2143289344 30 = true ∧ bt 2143289344 31 = false := by decide +kernel
theorem bc_3072 : bt 3072 0 = false ∧ bt 3072 1 = false ∧ bt 3072 2 = false ∧ bt 3072 3 = false ∧ bt 3072 4 = false ∧ bt 3072 5 = false ∧ bt 3072 6 = false ∧ bt 3072 7 = false ∧ bt 3072 8 = false ∧ bt 3072 9 = false ∧ bt 3072 10 = true ∧ bt 3072 11 = true ∧ bt 3072 12 = false ∧ bt 3072 13 = false ∧ bt 3072 14 = false ∧ bt 3072 15 = false ∧ bt 3072 16 = false ∧ bt 3072 17 = false ∧ bt 3072 18 = false ∧ bt 3072 19 = false ∧ bt 3072 20 = false ∧ bt 3072 21 = false ∧ bt 3072 22 = false ∧ bt 3072 23 = false ∧ bt 3072 24 = false ∧ bt 3072 25 = false ∧ bt 3072 26 = false ∧ bt 3072 27 = false ∧ bt 3072 28 = false ∧ bt 3072 29 = false ∧ bt 3072 30 = false ∧ bt 3072 31 = false := by decide +kernel
theorem ix_cs {id N : Nat} (hid : id = 0 ∨ id = 1) (hN : N < 4096) : ((4096 * nI id) + nI N).toNatClampNeg = 4096 * id + N := by
  show (nI 4096 * nI id + nI N).toNatClampNeg = _
  rw [pk_mul, nI_add, nI_clamp]
  rcases hid with rfl | rfl <;> omega
theorem raw_at {id N : Nat} (cs : Nat → Int32) (hid : id = 0 ∨ id = 1) (hN : N < 4096) : sp_Model_raw (nI id) (nI N) cs = cs (4096 * id + N) := by
  unfold sp_Model_raw
  rw [ix_cs hid hN]
theorem keep_at {id N : Nat} (cs : Nat → Int32) (v m : Int32) (hid : id = 0 ∨ id = 1) (hN : N < 4096) : sp_Model_keep (nI id) (nI N) v m cs = upd cs (4096 * id + N) ((cs (4096 * id + N) &&& (m ^^^ (-1))) ||| (v &&& m)) := by
  unfold sp_Model_keep
  rw [raw_at cs hid hN, ix_cs hid hN]
theorem told_cases {x : Int32} (h : ¬ sp_Csrs_isTold x = 0) : x = 256 ∨ x = 260 ∨ x = 261 ∨ x = 320 ∨ x = 321 ∨ x = 322 ∨ x = 323 ∨ x = 324 ∨ x = 384 ∨ x = 768 ∨ x = 769 ∨ x = 770 ∨ x = 771 ∨ x = 772 ∨ x = 773 ∨ x = 832 ∨ x = 833 ∨ x = 834 ∨ x = 835 ∨ x = 836 ∨ x = 3857 ∨ x = 3858 ∨ x = 3859 ∨ x = 3860 := by
  unfold sp_Csrs_isTold at h
  by_cases c0 : x = 256
  · exact Or.inl c0
  rw [if_neg c0] at h
  by_cases c1 : x = 260
  · exact Or.inr (Or.inl c1)
  rw [if_neg c1] at h
  by_cases c2 : x = 261
  · exact Or.inr (Or.inr (Or.inl c2))
  rw [if_neg c2] at h
  by_cases c3 : x = 320
  · exact Or.inr (Or.inr (Or.inr (Or.inl c3)))
  rw [if_neg c3] at h
  by_cases c4 : x = 321
  · exact Or.inr (Or.inr (Or.inr (Or.inr (Or.inl c4))))
  rw [if_neg c4] at h
  by_cases c5 : x = 322
  · exact Or.inr (Or.inr (Or.inr (Or.inr (Or.inr (Or.inl c5)))))
  rw [if_neg c5] at h
  by_cases c6 : x = 323
  · exact Or.inr (Or.inr (Or.inr (Or.inr (Or.inr (Or.inr (Or.inl c6))))))
  rw [if_neg c6] at h
  by_cases c7 : x = 324
  · exact Or.inr (Or.inr (Or.inr (Or.inr (Or.inr (Or.inr (Or.inr (Or.inl c7)))))))
  rw [if_neg c7] at h
  by_cases c8 : x = 384
  · exact Or.inr (Or.inr (Or.inr (Or.inr (Or.inr (Or.inr (Or.inr (Or.inr (Or.inl c8))))))))
  rw [if_neg c8] at h
  by_cases c9 : x = 768
  · exact Or.inr (Or.inr (Or.inr (Or.inr (Or.inr (Or.inr (Or.inr (Or.inr (Or.inr (Or.inl c9)))))))))
  rw [if_neg c9] at h
  by_cases c10 : x = 769
  · exact Or.inr (Or.inr (Or.inr (Or.inr (Or.inr (Or.inr (Or.inr (Or.inr (Or.inr (Or.inr (Or.inl c10))))))))))
  rw [if_neg c10] at h
  by_cases c11 : x = 770
  · exact Or.inr (Or.inr (Or.inr (Or.inr (Or.inr (Or.inr (Or.inr (Or.inr (Or.inr (Or.inr (Or.inr (Or.inl c11)))))))))))
  rw [if_neg c11] at h
  by_cases c12 : x = 771
  · exact Or.inr (Or.inr (Or.inr (Or.inr (Or.inr (Or.inr (Or.inr (Or.inr (Or.inr (Or.inr (Or.inr (Or.inr (Or.inl c12))))))))))))
  rw [if_neg c12] at h
  by_cases c13 : x = 772
  · exact Or.inr (Or.inr (Or.inr (Or.inr (Or.inr (Or.inr (Or.inr (Or.inr (Or.inr (Or.inr (Or.inr (Or.inr (Or.inr (Or.inl c13)))))))))))))
  rw [if_neg c13] at h
  by_cases c14 : x = 773
  · exact Or.inr (Or.inr (Or.inr (Or.inr (Or.inr (Or.inr (Or.inr (Or.inr (Or.inr (Or.inr (Or.inr (Or.inr (Or.inr (Or.inr (Or.inl c14))))))))))))))
  rw [if_neg c14] at h
  by_cases c15 : x = 832
  · exact Or.inr (Or.inr (Or.inr (Or.inr (Or.inr (Or.inr (Or.inr (Or.inr (Or.inr (Or.inr (Or.inr (Or.inr (Or.inr (Or.inr (Or.inr (Or.inl c15)))))))))))))))
  rw [if_neg c15] at h
  by_cases c16 : x = 833
  · exact Or.inr (Or.inr (Or.inr (Or.inr (Or.inr (Or.inr (Or.inr (Or.inr (Or.inr (Or.inr (Or.inr (Or.inr (Or.inr (Or.inr (Or.inr (Or.inr (Or.inl c16))))))))))))))))
  rw [if_neg c16] at h
  by_cases c17 : x = 834
  · exact Or.inr (Or.inr (Or.inr (Or.inr (Or.inr (Or.inr (Or.inr (Or.inr (Or.inr (Or.inr (Or.inr (Or.inr (Or.inr (Or.inr (Or.inr (Or.inr (Or.inr (Or.inl c17)))))))))))))))))
  rw [if_neg c17] at h
  by_cases c18 : x = 835
  · exact Or.inr (Or.inr (Or.inr (Or.inr (Or.inr (Or.inr (Or.inr (Or.inr (Or.inr (Or.inr (Or.inr (Or.inr (Or.inr (Or.inr (Or.inr (Or.inr (Or.inr (Or.inr (Or.inl c18))))))))))))))))))
  rw [if_neg c18] at h
  by_cases c19 : x = 836
  · exact Or.inr (Or.inr (Or.inr (Or.inr (Or.inr (Or.inr (Or.inr (Or.inr (Or.inr (Or.inr (Or.inr (Or.inr (Or.inr (Or.inr (Or.inr (Or.inr (Or.inr (Or.inr (Or.inr (Or.inl c19)))))))))))))))))))
  rw [if_neg c19] at h
  by_cases c20 : x = 3857
  · exact Or.inr (Or.inr (Or.inr (Or.inr (Or.inr (Or.inr (Or.inr (Or.inr (Or.inr (Or.inr (Or.inr (Or.inr (Or.inr (Or.inr (Or.inr (Or.inr (Or.inr (Or.inr (Or.inr (Or.inr (Or.inl c20))))))))))))))))))))
  rw [if_neg c20] at h
  by_cases c21 : x = 3858
  · exact Or.inr (Or.inr (Or.inr (Or.inr (Or.inr (Or.inr (Or.inr (Or.inr (Or.inr (Or.inr (Or.inr (Or.inr (Or.inr (Or.inr (Or.inr (Or.inr (Or.inr (Or.inr (Or.inr (Or.inr (Or.inr (Or.inl c21)))))))))))))))))))))
  rw [if_neg c21] at h
  by_cases c22 : x = 3859
  · exact Or.inr (Or.inr (Or.inr (Or.inr (Or.inr (Or.inr (Or.inr (Or.inr (Or.inr (Or.inr (Or.inr (Or.inr (Or.inr (Or.inr (Or.inr (Or.inr (Or.inr (Or.inr (Or.inr (Or.inr (Or.inr (Or.inr (Or.inl c22))))))))))))))))))))))
  rw [if_neg c22] at h
  by_cases c23 : x = 3860
  · exact Or.inr (Or.inr (Or.inr (Or.inr (Or.inr (Or.inr (Or.inr (Or.inr (Or.inr (Or.inr (Or.inr (Or.inr (Or.inr (Or.inr (Or.inr (Or.inr (Or.inr (Or.inr (Or.inr (Or.inr (Or.inr (Or.inr (Or.inr (c23)))))))))))))))))))))))
  rw [if_neg c23] at h
  exact absurd rfl h
theorem csr_cases {x : Int32} (h : ¬ sp_Model_isCsr x = 0) : x = 256 ∨ x = 260 ∨ x = 261 ∨ x = 320 ∨ x = 321 ∨ x = 322 ∨ x = 323 ∨ x = 324 ∨ x = 384 ∨ x = 768 ∨ x = 769 ∨ x = 770 ∨ x = 771 ∨ x = 772 ∨ x = 773 ∨ x = 832 ∨ x = 833 ∨ x = 834 ∨ x = 835 ∨ x = 836 ∨ x = 3857 ∨ x = 3858 ∨ x = 3859 ∨ x = 3860 := by
  obtain ⟨j, hj, rfl⟩ := vp_in_of (vp_isCsr h) (by decide)
  have lt : ∀ k : Nat, k < 4096 → (nI j < nI k ↔ j < k) := fun k hk => nI_ltI (by omega) (by omega)
  have gt : ∀ k : Nat, k < 4096 → (nI k < nI j ↔ k < j) := fun k hk => nI_ltI (by omega) (by omega)
  have le : ∀ k : Nat, k < 4096 → (nI j ≤ nI k ↔ j ≤ k) := fun k hk => nI_leI (by omega) (by omega)
  have eq : ∀ k : Nat, k < 4096 → (nI j = nI k ↔ j = k) := fun k hk => nI_eq (by omega) (by omega)
  have a1 : nI j < 768 ↔ j < 768 := lt 768 (by decide)
  have a2 : nI j < 832 ↔ j < 832 := lt 832 (by decide)
  have a3 : nI j < 3857 ↔ j < 3857 := lt 3857 (by decide)
  have a4 : nI j < 320 ↔ j < 320 := lt 320 (by decide)
  have g1 : nI j ≤ 773 ↔ j ≤ 773 := le 773 (by decide)
  have g2 : nI j ≤ 836 ↔ j ≤ 836 := le 836 (by decide)
  have g3 : nI j ≤ 324 ↔ j ≤ 324 := le 324 (by decide)
  have g4 : (3860 : Int32) < nI j ↔ 3860 < j := gt 3860 (by decide)
  have b1 : nI j = 256 ↔ j = 256 := eq 256 (by decide)
  have b2 : nI j = 260 ↔ j = 260 := eq 260 (by decide)
  have b3 : nI j = 261 ↔ j = 261 := eq 261 (by decide)
  have b4 : nI j = 384 ↔ j = 384 := eq 384 (by decide)
  have key : j = 256 ∨ j = 260 ∨ j = 261 ∨ j = 320 ∨ j = 321 ∨ j = 322 ∨ j = 323 ∨ j = 324 ∨ j = 384 ∨ j = 768 ∨ j = 769 ∨ j = 770 ∨ j = 771 ∨ j = 772 ∨ j = 773 ∨ j = 832 ∨ j = 833 ∨ j = 834 ∨ j = 835 ∨ j = 836 ∨ j = 3857 ∨ j = 3858 ∨ j = 3859 ∨ j = 3860 := by
    have P : ∀ x : Int32, (¬ x = 0 → (j = 256 ∨ j = 260 ∨ j = 261 ∨ j = 320 ∨ j = 321 ∨ j = 322 ∨ j = 323 ∨ j = 324 ∨ j = 384 ∨ j = 768 ∨ j = 769 ∨ j = 770 ∨ j = 771 ∨ j = 772 ∨ j = 773 ∨ j = 832 ∨ j = 833 ∨ j = 834 ∨ j = 835 ∨ j = 836 ∨ j = 3857 ∨ j = 3858 ∨ j = 3859 ∨ j = 3860)) → (¬ x = 0 → (j = 256 ∨ j = 260 ∨ j = 261 ∨ j = 320 ∨ j = 321 ∨ j = 322 ∨ j = 323 ∨ j = 324 ∨ j = 384 ∨ j = 768 ∨ j = 769 ∨ j = 770 ∨ j = 771 ∨ j = 772 ∨ j = 773 ∨ j = 832 ∨ j = 833 ∨ j = 834 ∨ j = 835 ∨ j = 836 ∨ j = 3857 ∨ j = 3858 ∨ j = 3859 ∨ j = 3860)) := fun _ h => h
    have Z : ¬ (0 : Int32) = 0 → (j = 256 ∨ j = 260 ∨ j = 261 ∨ j = 320 ∨ j = 321 ∨ j = 322 ∨ j = 323 ∨ j = 324 ∨ j = 384 ∨ j = 768 ∨ j = 769 ∨ j = 770 ∨ j = 771 ∨ j = 772 ∨ j = 773 ∨ j = 832 ∨ j = 833 ∨ j = 834 ∨ j = 835 ∨ j = 836 ∨ j = 3857 ∨ j = 3858 ∨ j = 3859 ∨ j = 3860) := fun h => absurd rfl h
    revert h
    simp only [sp_Model_isCsr, a1, a2, a3, a4, g1, g2, g3, g4, b1, b2, b3, b4]
    repeat' first
      | with_reducible exact Z
      | with_reducible refine ite_P (P := fun x : Int32 => ¬ x = 0 → (j = 256 ∨ j = 260 ∨ j = 261 ∨ j = 320 ∨ j = 321 ∨ j = 322 ∨ j = 323 ∨ j = 324 ∨ j = 384 ∨ j = 768 ∨ j = 769 ∨ j = 770 ∨ j = 771 ∨ j = 772 ∨ j = 773 ∨ j = 832 ∨ j = 833 ∨ j = 834 ∨ j = 835 ∨ j = 836 ∨ j = 3857 ∨ j = 3858 ∨ j = 3859 ∨ j = 3860)) (fun _ => ?_) (fun _ => ?_)
      | (intro _; omega)
  rcases key with rfl | rfl | rfl | rfl | rfl | rfl | rfl | rfl | rfl | rfl | rfl | rfl | rfl | rfl | rfl | rfl | rfl | rfl | rfl | rfl | rfl | rfl | rfl | rfl <;> decide
theorem told_eq (x : Int32) : sp_Csrs_isTold x = 0 ↔ sp_Model_isCsr x = 0 := by
  constructor
  · intro h
    by_cases q : sp_Model_isCsr x = 0
    · exact q
    · exfalso
      rcases csr_cases q with rfl | rfl | rfl | rfl | rfl | rfl | rfl | rfl | rfl | rfl | rfl | rfl | rfl | rfl | rfl | rfl | rfl | rfl | rfl | rfl | rfl | rfl | rfl | rfl <;> exact absurd h (by decide)
  · intro h
    by_cases q : sp_Csrs_isTold x = 0
    · exact q
    · exfalso
      rcases told_cases q with rfl | rfl | rfl | rfl | rfl | rfl | rfl | rfl | rfl | rfl | rfl | rfl | rfl | rfl | rfl | rfl | rfl | rfl | rfl | rfl | rfl | rfl | rfl | rfl <;> exact absurd h (by decide)
theorem or_136 (x : Int32) : (x ||| 8) ||| 128 = x ||| 136 := by
  apply b_ext
  intro i hi
  rcases lt32 hi with rfl | rfl | rfl | rfl | rfl | rfl | rfl | rfl | rfl | rfl | rfl | rfl | rfl | rfl | rfl | rfl | rfl | rfl | rfl | rfl | rfl | rfl | rfl | rfl | rfl | rfl | rfl | rfl | rfl | rfl | rfl | rfl <;> simp [b_or, b_and, b_xor, b_i8, b_i16, bc_8, bc_128, bc_136, bsl_0, bus_0, bsr_0, bsl_1, bus_1, bsr_1, bsl_2, bus_2, bsr_2, bsl_3, bus_3, bsr_3, bsl_4, bus_4, bsr_4, bsl_5, bus_5, bsr_5, bsl_6, bus_6, bsr_6, bsl_7, bus_7, bsr_7, bsl_8, bus_8, bsr_8, bsl_9, bus_9, bsr_9, bsl_10, bus_10, bsr_10, bsl_11, bus_11, bsr_11, bsl_12, bus_12, bsr_12, bsl_13, bus_13, bsr_13, bsl_14, bus_14, bsr_14, bsl_15, bus_15, bsr_15, bsl_16, bus_16, bsr_16, bsl_17, bus_17, bsr_17, bsl_18, bus_18, bsr_18, bsl_19, bus_19, bsr_19, bsl_20, bus_20, bsr_20, bsl_21, bus_21, bsr_21, bsl_22, bus_22, bsr_22, bsl_23, bus_23, bsr_23, bsl_24, bus_24, bsr_24, bsl_25, bus_25, bsr_25, bsl_26, bus_26, bsr_26, bsl_27, bus_27, bsr_27, bsl_28, bus_28, bsr_28, bsl_29, bus_29, bsr_29, bsl_30, bus_30, bsr_30, bsl_31, bus_31, bsr_31]
theorem or_z (x : Int32) : x ||| 0 = x := Int32.or_zero
theorem w_at {id : Nat} (hid : id = 0 ∨ id = 1) (w : Nat → Int32) : sp_Clint_isBelow 6 (2 + (2 * nI id)) w = if w 7 = w (2 * id + 3) then sp_Alu_below (w 6) (w (2 * id + 2)) else sp_Alu_below (w 7) (w (2 * id + 3)) := by
  rcases hid with rfl | rfl <;> rfl
theorem late_iff {id : Nat} (hid : id = 0 ∨ id = 1) {w : Nat → Int32} {ti c : Int64} (h1 : ti = comb (w 7) (w 6)) (h2 : c = comb (w (2 * id + 3)) (w (2 * id + 2))) : (ti + (-9223372036854775808)) < (c + (-9223372036854775808)) ↔ ¬ sp_Clint_isBelow 6 (2 + (2 * nI id)) w = 0 := by
  rw [lmin_lt, h1, h2, cb_tn, cb_tn, w_at hid]
  have l6 := (w 6).toBitVec.isLt
  have l2 := (w (2 * id + 2)).toBitVec.isLt
  by_cases e : w 7 = w (2 * id + 3)
  · rw [if_pos e, below_iff, e]; omega
  · rw [if_neg e, below_iff]
    have ne : ¬ (w 7).toBitVec.toNat = (w (2 * id + 3)).toBitVec.toNat := fun q => e (Int32.toBitVec_inj.mp (BitVec.eq_of_toNat_eq q))
    omega
/-- the lines from outside, as the reference has them -/
theorem lines_eq {n id : Nat} (hid : id = 0 ∨ id = 1) {M : TM} {b cl : Nat → Int32} {cm : Nat → Int64} {so : Nat → Int32} {ti : Int64} {pu : Nat → Int32} {np : Int32} (hM : MemR n M b cl cm so ti pu np) : (so (nI id).toNatClampNeg = M.1 id ∧ (M.1 id = 0 ∨ M.1 id = 1)) ∧ ((ti + (-9223372036854775808)) < ((cm (nI id).toNatClampNeg) + (-9223372036854775808)) ↔ ¬ sp_Clint_isBelow 6 (2 + (2 * nI id)) M.1 = 0) := by
  obtain ⟨-, -, ⟨a1, a2, a3, a4, a5, a6, a7⟩, -⟩ := hM
  rcases hid with rfl | rfl
  · exact ⟨⟨a4, a6⟩, late_iff (Or.inl rfl) a3 a1⟩
  · exact ⟨⟨a5, a7⟩, late_iff (Or.inr rfl) a3 a2⟩
theorem read_eq {n id : Nat} (hid : id = 0 ∨ id = 1) {M : TM} {q b cl cs : Nat → Int32} {cm : Nat → Int64} {so : Nat → Int32} {ti : Int64} {pu : Nat → Int32} {np : Int32} (hM : MemR n M b cl cm so ti pu np) (hC : CsrR id q cs) {N : Int32} (hN : ¬ sp_Csrs_isTold N = 0) : sp_Csrs_read N (sp_Clint_lines (nI id) M.1) q = sp_Model_read (nI id) N cs cm so ti := by
  obtain ⟨⟨s1, s2⟩, s3⟩ := lines_eq hid hM
  obtain ⟨c0, c1, c2, c3, c4⟩ := hC
  have R : ∀ k i : Nat, (k, i) ∈ csrMap → k < 4096 → sp_Model_raw (nI id) (nI k) cs = q i := fun k i he hk => (raw_at cs hid hk).trans (c1 (k, i) he)
  have R768 : sp_Model_raw (nI id) 768 cs = q 1 := R 768 1 (by decide) (by decide)
  have R770 : sp_Model_raw (nI id) 770 cs = q 2 := R 770 2 (by decide) (by decide)
  have R771 : sp_Model_raw (nI id) 771 cs = q 3 := R 771 3 (by decide) (by decide)
  have R772 : sp_Model_raw (nI id) 772 cs = q 4 := R 772 4 (by decide) (by decide)
  have R773 : sp_Model_raw (nI id) 773 cs = q 5 := R 773 5 (by decide) (by decide)
  have R833 : sp_Model_raw (nI id) 833 cs = q 6 := R 833 6 (by decide) (by decide)
  have R832 : sp_Model_raw (nI id) 832 cs = q 7 := R 832 7 (by decide) (by decide)
  have R834 : sp_Model_raw (nI id) 834 cs = q 8 := R 834 8 (by decide) (by decide)
  have R835 : sp_Model_raw (nI id) 835 cs = q 9 := R 835 9 (by decide) (by decide)
  have R836 : sp_Model_raw (nI id) 836 cs = q 10 := R 836 10 (by decide) (by decide)
  have R261 : sp_Model_raw (nI id) 261 cs = q 11 := R 261 11 (by decide) (by decide)
  have R321 : sp_Model_raw (nI id) 321 cs = q 12 := R 321 12 (by decide) (by decide)
  have R320 : sp_Model_raw (nI id) 320 cs = q 13 := R 320 13 (by decide) (by decide)
  have R322 : sp_Model_raw (nI id) 322 cs = q 14 := R 322 14 (by decide) (by decide)
  have R323 : sp_Model_raw (nI id) 323 cs = q 15 := R 323 15 (by decide) (by decide)
  have R384 : sp_Model_raw (nI id) 384 cs = q 16 := R 384 16 (by decide) (by decide)
  have F1 : sp_Model_raw (nI id) 3857 cs = 0 := (raw_at cs hid (N := 3857) (by decide)).trans c2
  have F2 : sp_Model_raw (nI id) 3858 cs = 0 := (raw_at cs hid (N := 3858) (by decide)).trans c3
  have F3 : sp_Model_raw (nI id) 3859 cs = 0 := (raw_at cs hid (N := 3859) (by decide)).trans c4
  have L : sp_Clint_lines (nI id) M.1 = if M.1 id = 0 then (if sp_Clint_isBelow 6 (2 + (2 * nI id)) M.1 = 0 then 128 else 0) else (if sp_Clint_isBelow 6 (2 + (2 * nI id)) M.1 = 0 then 136 else 8) := by
    unfold sp_Clint_lines
    rcases hid with rfl | rfl <;> rfl
  have K : ∀ (p : Int32) (late soft : Int32), sp_Model_read (nI id) N cs cm so ti = sp_Model_read (nI id) N cs cm so ti := fun _ _ _ => rfl
  by_cases t : sp_Clint_isBelow 6 (2 + (2 * nI id)) M.1 = 0
  · have t2 : ¬ (ti + (-9223372036854775808)) < ((cm (nI id).toNatClampNeg) + (-9223372036854775808)) := fun z => (s3.mp z) t
    rcases s2 with w0 | w1
    · have w2 : ¬ so (nI id).toNatClampNeg = 1 := by rw [s1, w0]; decide
      rw [L, if_pos w0, if_pos t]
      unfold sp_Model_read
      rw [if_neg t2, if_neg w2]
      rcases told_cases hN with rfl | rfl | rfl | rfl | rfl | rfl | rfl | rfl | rfl | rfl | rfl | rfl | rfl | rfl | rfl | rfl | rfl | rfl | rfl | rfl | rfl | rfl | rfl | rfl <;> simp [sp_Csrs_read, sp_Model_sstatusBits, R768, R770, R771, R772, R773, R833, R832, R834, R835, R836, R261, R321, R320, R322, R323, R384, F1, F2, F3, c0]
    · have w2 : so (nI id).toNatClampNeg = 1 := by rw [s1, w1]
      rw [L, if_neg (by rw [w1]; decide), if_pos t]
      unfold sp_Model_read
      rw [if_neg t2, if_pos w2]
      rcases told_cases hN with rfl | rfl | rfl | rfl | rfl | rfl | rfl | rfl | rfl | rfl | rfl | rfl | rfl | rfl | rfl | rfl | rfl | rfl | rfl | rfl | rfl | rfl | rfl | rfl <;> simp [sp_Csrs_read, sp_Model_sstatusBits, or_136, R768, R770, R771, R772, R773, R833, R832, R834, R835, R836, R261, R321, R320, R322, R323, R384, F1, F2, F3, c0]
  · have t2 : (ti + (-9223372036854775808)) < ((cm (nI id).toNatClampNeg) + (-9223372036854775808)) := s3.mpr t
    rcases s2 with w0 | w1
    · have w2 : ¬ so (nI id).toNatClampNeg = 1 := by rw [s1, w0]; decide
      rw [L, if_pos w0, if_neg t]
      unfold sp_Model_read
      rw [if_pos t2, if_neg w2]
      rcases told_cases hN with rfl | rfl | rfl | rfl | rfl | rfl | rfl | rfl | rfl | rfl | rfl | rfl | rfl | rfl | rfl | rfl | rfl | rfl | rfl | rfl | rfl | rfl | rfl | rfl <;> simp [sp_Csrs_read, sp_Model_sstatusBits, R768, R770, R771, R772, R773, R833, R832, R834, R835, R836, R261, R321, R320, R322, R323, R384, F1, F2, F3, c0]
    · have w2 : so (nI id).toNatClampNeg = 1 := by rw [s1, w1]
      rw [L, if_neg (by rw [w1]; decide), if_neg t]
      unfold sp_Model_read
      rw [if_pos t2, if_pos w2]
      rcases told_cases hN with rfl | rfl | rfl | rfl | rfl | rfl | rfl | rfl | rfl | rfl | rfl | rfl | rfl | rfl | rfl | rfl | rfl | rfl | rfl | rfl | rfl | rfl | rfl | rfl <;> simp [sp_Csrs_read, sp_Model_sstatusBits, R768, R770, R771, R772, R773, R833, R832, R834, R835, R836, R261, R321, R320, R322, R323, R384, F1, F2, F3, c0]
section EqsC
variable {n : Nat} {σ : TT} {pcs lv cs x b cl : Nat → Int32} {cm : Nat → Int64} {so : Nat → Int32} {ti : Int64} {pu : Nat → Int32} {np : Int32} {x0 x1 x2 r1 r2 : Int32} {u1 : TT}
theorem E_csr (hn : n ≤ 4096) (hR : Rel n σ pcs lv cs x b cl cm so ti pu np) (h1 : sp_TwinHart_csr n x0 x1 σ = r1) (h2 : sp_Model_csr x0 x1 cs cm so ti = r2) : r1 = r2 := by
  subst h1; subst h2
  have no : ∀ l q, sp_Csrs_isTold x1 = 0 → sp_Csrs_read x1 l q = 0 := by
    intro l q h
    have ne : ∀ k : Int32, ¬ sp_Csrs_isTold k = 0 → ¬ x1 = k := fun k hk e => hk (e ▸ h)
    unfold sp_Csrs_read
    rw [if_neg (ne 256 (by decide)), if_neg (ne 260 (by decide)), if_neg (ne 261 (by decide)), if_neg (ne 320 (by decide)), if_neg (ne 321 (by decide)), if_neg (ne 322 (by decide)), if_neg (ne 323 (by decide)), if_neg (ne 324 (by decide)), if_neg (ne 384 (by decide)), if_neg (ne 768 (by decide)), if_neg (ne 769 (by decide)), if_neg (ne 770 (by decide)), if_neg (ne 771 (by decide)), if_neg (ne 772 (by decide)), if_neg (ne 773 (by decide)), if_neg (ne 832 (by decide)), if_neg (ne 833 (by decide)), if_neg (ne 834 (by decide)), if_neg (ne 835 (by decide)), if_neg (ne 836 (by decide)), if_neg (ne 3860 (by decide))]
  unfold sp_TwinHart_csr sp_Model_csr
  by_cases e0 : x0 = 0
  · subst e0
    rw [if_pos rfl, if_neg ih_0]
    by_cases q : sp_Model_isCsr x1 = 0
    · rw [if_pos q, no _ _ ((told_eq x1).mpr q)]
    · rw [if_neg q]; exact read_eq (Or.inl rfl) hR.1 hR.2.1.2.2.2.1 (fun z => q ((told_eq x1).mp z))
  · rw [if_neg e0]
    by_cases e1 : x0 = 1
    · subst e1
      rw [if_pos rfl, if_neg ih_1]
      by_cases q : sp_Model_isCsr x1 = 0
      · rw [if_pos q, no _ _ ((told_eq x1).mpr q)]
      · rw [if_neg q]; exact read_eq (Or.inr rfl) hR.1 hR.2.2.2.2.2.1 (fun z => q ((told_eq x1).mp z))
    · rw [if_neg e1, if_pos (ih_no e0 e1)]
end EqsC
