set_option maxRecDepth 20000 in
theorem nf_0_9 {sc : xm_Sc} : xm_nf (xe_cl (XE sc)) 0 9 = True := eq_true rfl
set_option maxRecDepth 20000 in
theorem ft_0_9 {sc : xm_Sc} : xe_ft (XE sc) 0 9 = .int := rfl
set_option maxRecDepth 20000 in
theorem nf_1_6 {sc : xm_Sc} : xm_nf (xe_cl (XE sc)) 1 6 = True := eq_true rfl
set_option maxRecDepth 20000 in
theorem ft_1_6 {sc : xm_Sc} : xe_ft (XE sc) 1 6 = .int := rfl
set_option maxRecDepth 20000 in
theorem nf_1_7 {sc : xm_Sc} : xm_nf (xe_cl (XE sc)) 1 7 = True := eq_true rfl
set_option maxRecDepth 20000 in
theorem ft_1_7 {sc : xm_Sc} : xe_ft (XE sc) 1 7 = .int := rfl
set_option maxRecDepth 20000 in
theorem nf_2_0 {sc : xm_Sc} : xm_nf (xe_cl (XE sc)) 2 0 = True := eq_true rfl
set_option maxRecDepth 20000 in
theorem ft_2_0 {sc : xm_Sc} : xe_ft (XE sc) 2 0 = .int := rfl
set_option maxRecDepth 20000 in
theorem nf_2_1 {sc : xm_Sc} : xm_nf (xe_cl (XE sc)) 2 1 = True := eq_true rfl
set_option maxRecDepth 20000 in
theorem ft_2_1 {sc : xm_Sc} : xe_ft (XE sc) 2 1 = .long := rfl
set_option maxRecDepth 20000 in
theorem nf_2_2 {sc : xm_Sc} : xm_nf (xe_cl (XE sc)) 2 2 = True := eq_true rfl
set_option maxRecDepth 20000 in
theorem ft_2_2 {sc : xm_Sc} : xe_ft (XE sc) 2 2 = .int := rfl
set_option maxRecDepth 20000 in
theorem nf_2_3 {sc : xm_Sc} : xm_nf (xe_cl (XE sc)) 2 3 = True := eq_true rfl
set_option maxRecDepth 20000 in
theorem ft_2_3 {sc : xm_Sc} : xe_ft (XE sc) 2 3 = .long := rfl
set_option maxRecDepth 20000 in
theorem nf_2_4 {sc : xm_Sc} : xm_nf (xe_cl (XE sc)) 2 4 = True := eq_true rfl
set_option maxRecDepth 20000 in
theorem ft_2_4 {sc : xm_Sc} : xe_ft (XE sc) 2 4 = .long := rfl
set_option maxRecDepth 20000 in
theorem nf_2_5 {sc : xm_Sc} : xm_nf (xe_cl (XE sc)) 2 5 = True := eq_true rfl
set_option maxRecDepth 20000 in
theorem ft_2_5 {sc : xm_Sc} : xe_ft (XE sc) 2 5 = .long := rfl
set_option maxRecDepth 20000 in
theorem nf_2_6 {sc : xm_Sc} : xm_nf (xe_cl (XE sc)) 2 6 = True := eq_true rfl
set_option maxRecDepth 20000 in
theorem ft_2_6 {sc : xm_Sc} : xe_ft (XE sc) 2 6 = .long := rfl
set_option maxRecDepth 20000 in
theorem nf_2_7 {sc : xm_Sc} : xm_nf (xe_cl (XE sc)) 2 7 = True := eq_true rfl
set_option maxRecDepth 20000 in
theorem ft_2_7 {sc : xm_Sc} : xe_ft (XE sc) 2 7 = .long := rfl
set_option maxRecDepth 20000 in
theorem nf_2_8 {sc : xm_Sc} : xm_nf (xe_cl (XE sc)) 2 8 = True := eq_true rfl
set_option maxRecDepth 20000 in
theorem ft_2_8 {sc : xm_Sc} : xe_ft (XE sc) 2 8 = .long := rfl
set_option maxRecDepth 20000 in
theorem nf_2_9 {sc : xm_Sc} : xm_nf (xe_cl (XE sc)) 2 9 = True := eq_true rfl
set_option maxRecDepth 20000 in
theorem ft_2_9 {sc : xm_Sc} : xe_ft (XE sc) 2 9 = .long := rfl
set_option maxRecDepth 20000 in
theorem nf_3_1 {sc : xm_Sc} : xm_nf (xe_cl (XE sc)) 3 1 = True := eq_true rfl
set_option maxRecDepth 20000 in
theorem ft_3_1 {sc : xm_Sc} : xe_ft (XE sc) 3 1 = .object "ComboHouse$Program" := rfl
set_option maxRecDepth 20000 in
theorem nf_3_2 {sc : xm_Sc} : xm_nf (xe_cl (XE sc)) 3 2 = True := eq_true rfl
set_option maxRecDepth 20000 in
theorem ft_3_2 {sc : xm_Sc} : xe_ft (XE sc) 3 2 = .object "ComboHouse$Row" := rfl
set_option maxRecDepth 20000 in
theorem nf_3_3 {sc : xm_Sc} : xm_nf (xe_cl (XE sc)) 3 3 = True := eq_true rfl
set_option maxRecDepth 20000 in
theorem ft_3_3 {sc : xm_Sc} : xe_ft (XE sc) 3 3 = .int := rfl
set_option maxRecDepth 20000 in
theorem nf_3_4 {sc : xm_Sc} : xm_nf (xe_cl (XE sc)) 3 4 = True := eq_true rfl
set_option maxRecDepth 20000 in
theorem ft_3_4 {sc : xm_Sc} : xe_ft (XE sc) 3 4 = .int := rfl
set_option maxRecDepth 20000 in
theorem nf_3_5 {sc : xm_Sc} : xm_nf (xe_cl (XE sc)) 3 5 = True := eq_true rfl
set_option maxRecDepth 20000 in
theorem ft_3_5 {sc : xm_Sc} : xe_ft (XE sc) 3 5 = .int := rfl
set_option maxRecDepth 20000 in
theorem nf_4_0 {sc : xm_Sc} : xm_nf (xe_cl (XE sc)) 4 0 = True := eq_true rfl
set_option maxRecDepth 20000 in
theorem ft_4_0 {sc : xm_Sc} : xe_ft (XE sc) 4 0 = .int := rfl
set_option maxRecDepth 20000 in
theorem nf_4_1 {sc : xm_Sc} : xm_nf (xe_cl (XE sc)) 4 1 = True := eq_true rfl
set_option maxRecDepth 20000 in
theorem ft_4_1 {sc : xm_Sc} : xe_ft (XE sc) 4 1 = .int := rfl
set_option maxRecDepth 20000 in
theorem nf_4_10 {sc : xm_Sc} : xm_nf (xe_cl (XE sc)) 4 10 = True := eq_true rfl
set_option maxRecDepth 20000 in
theorem ft_4_10 {sc : xm_Sc} : xe_ft (XE sc) 4 10 = .int := rfl
set_option maxRecDepth 20000 in
theorem nf_4_11 {sc : xm_Sc} : xm_nf (xe_cl (XE sc)) 4 11 = True := eq_true rfl
set_option maxRecDepth 20000 in
theorem ft_4_11 {sc : xm_Sc} : xe_ft (XE sc) 4 11 = .int := rfl
set_option maxRecDepth 20000 in
theorem nf_4_12 {sc : xm_Sc} : xm_nf (xe_cl (XE sc)) 4 12 = True := eq_true rfl
set_option maxRecDepth 20000 in
theorem ft_4_12 {sc : xm_Sc} : xe_ft (XE sc) 4 12 = .int := rfl
set_option maxRecDepth 20000 in
theorem nf_4_13 {sc : xm_Sc} : xm_nf (xe_cl (XE sc)) 4 13 = True := eq_true rfl
set_option maxRecDepth 20000 in
theorem ft_4_13 {sc : xm_Sc} : xe_ft (XE sc) 4 13 = .int := rfl
set_option maxRecDepth 20000 in
theorem nf_4_14 {sc : xm_Sc} : xm_nf (xe_cl (XE sc)) 4 14 = True := eq_true rfl
set_option maxRecDepth 20000 in
theorem ft_4_14 {sc : xm_Sc} : xe_ft (XE sc) 4 14 = .int := rfl
set_option maxRecDepth 20000 in
theorem nf_4_15 {sc : xm_Sc} : xm_nf (xe_cl (XE sc)) 4 15 = True := eq_true rfl
set_option maxRecDepth 20000 in
theorem ft_4_15 {sc : xm_Sc} : xe_ft (XE sc) 4 15 = .int := rfl
set_option maxRecDepth 20000 in
theorem nf_4_16 {sc : xm_Sc} : xm_nf (xe_cl (XE sc)) 4 16 = True := eq_true rfl
set_option maxRecDepth 20000 in
theorem ft_4_16 {sc : xm_Sc} : xe_ft (XE sc) 4 16 = .long := rfl
set_option maxRecDepth 20000 in
theorem nf_5_2 {sc : xm_Sc} : xm_nf (xe_cl (XE sc)) 5 2 = True := eq_true rfl
set_option maxRecDepth 20000 in
theorem ft_5_2 {sc : xm_Sc} : xe_ft (XE sc) 5 2 = .int := rfl
set_option maxRecDepth 20000 in
theorem nf_5_9 {sc : xm_Sc} : xm_nf (xe_cl (XE sc)) 5 9 = True := eq_true rfl
set_option maxRecDepth 20000 in
theorem ft_5_9 {sc : xm_Sc} : xe_ft (XE sc) 5 9 = .int := rfl
set_option maxRecDepth 20000 in
theorem nf_6_0 {sc : xm_Sc} : xm_nf (xe_cl (XE sc)) 6 0 = True := eq_true rfl
set_option maxRecDepth 20000 in
theorem ft_6_0 {sc : xm_Sc} : xe_ft (XE sc) 6 0 = .int := rfl
set_option maxRecDepth 20000 in
theorem nf_6_14 {sc : xm_Sc} : xm_nf (xe_cl (XE sc)) 6 14 = True := eq_true rfl
set_option maxRecDepth 20000 in
theorem ft_6_14 {sc : xm_Sc} : xe_ft (XE sc) 6 14 = .int := rfl
set_option maxRecDepth 20000 in
theorem nf_6_15 {sc : xm_Sc} : xm_nf (xe_cl (XE sc)) 6 15 = True := eq_true rfl
set_option maxRecDepth 20000 in
theorem ft_6_15 {sc : xm_Sc} : xe_ft (XE sc) 6 15 = .int := rfl
set_option maxRecDepth 20000 in
theorem nf_7_4 {sc : xm_Sc} : xm_nf (xe_cl (XE sc)) 7 4 = True := eq_true rfl
set_option maxRecDepth 20000 in
theorem ft_7_4 {sc : xm_Sc} : xe_ft (XE sc) 7 4 = .boolean := rfl
set_option maxRecDepth 20000 in
theorem nf_7_5 {sc : xm_Sc} : xm_nf (xe_cl (XE sc)) 7 5 = True := eq_true rfl
set_option maxRecDepth 20000 in
theorem ft_7_5 {sc : xm_Sc} : xe_ft (XE sc) 7 5 = .boolean := rfl
set_option maxRecDepth 20000 in
theorem nf_7_6 {sc : xm_Sc} : xm_nf (xe_cl (XE sc)) 7 6 = True := eq_true rfl
set_option maxRecDepth 20000 in
theorem ft_7_6 {sc : xm_Sc} : xe_ft (XE sc) 7 6 = .boolean := rfl
set_option maxRecDepth 20000 in
theorem nf_8_1 {sc : xm_Sc} : xm_nf (xe_cl (XE sc)) 8 1 = True := eq_true rfl
set_option maxRecDepth 20000 in
theorem ft_8_1 {sc : xm_Sc} : xe_ft (XE sc) 8 1 = .int := rfl
set_option maxRecDepth 20000 in
theorem nf_8_2 {sc : xm_Sc} : xm_nf (xe_cl (XE sc)) 8 2 = True := eq_true rfl
set_option maxRecDepth 20000 in
theorem ft_8_2 {sc : xm_Sc} : xe_ft (XE sc) 8 2 = .boolean := rfl
set_option maxRecDepth 20000 in
theorem nf_8_3 {sc : xm_Sc} : xm_nf (xe_cl (XE sc)) 8 3 = True := eq_true rfl
set_option maxRecDepth 20000 in
theorem ft_8_3 {sc : xm_Sc} : xe_ft (XE sc) 8 3 = .int := rfl
set_option maxRecDepth 20000 in
theorem nf_9_0 {sc : xm_Sc} : xm_nf (xe_cl (XE sc)) 9 0 = True := eq_true rfl
set_option maxRecDepth 20000 in
theorem ft_9_0 {sc : xm_Sc} : xe_ft (XE sc) 9 0 = .int := rfl
set_option maxRecDepth 20000 in
theorem nf_9_7 {sc : xm_Sc} : xm_nf (xe_cl (XE sc)) 9 7 = True := eq_true rfl
set_option maxRecDepth 20000 in
theorem ft_9_7 {sc : xm_Sc} : xe_ft (XE sc) 9 7 = .int := rfl
set_option maxRecDepth 20000 in
theorem nf_9_8 {sc : xm_Sc} : xm_nf (xe_cl (XE sc)) 9 8 = True := eq_true rfl
set_option maxRecDepth 20000 in
theorem ft_9_8 {sc : xm_Sc} : xe_ft (XE sc) 9 8 = .int := rfl
set_option maxRecDepth 20000 in
theorem nf_9_9 {sc : xm_Sc} : xm_nf (xe_cl (XE sc)) 9 9 = True := eq_true rfl
set_option maxRecDepth 20000 in
theorem ft_9_9 {sc : xm_Sc} : xe_ft (XE sc) 9 9 = .object "ComboHouse$Row" := rfl
set_option maxRecDepth 20000 in
theorem nf_9_10 {sc : xm_Sc} : xm_nf (xe_cl (XE sc)) 9 10 = True := eq_true rfl
set_option maxRecDepth 20000 in
theorem ft_9_10 {sc : xm_Sc} : xe_ft (XE sc) 9 10 = .object "ComboHouse$Program" := rfl
set_option maxRecDepth 20000 in
theorem nf_9_11 {sc : xm_Sc} : xm_nf (xe_cl (XE sc)) 9 11 = True := eq_true rfl
set_option maxRecDepth 20000 in
theorem ft_9_11 {sc : xm_Sc} : xe_ft (XE sc) 9 11 = .int := rfl
set_option maxRecDepth 20000 in
theorem nf_9_12 {sc : xm_Sc} : xm_nf (xe_cl (XE sc)) 9 12 = True := eq_true rfl
set_option maxRecDepth 20000 in
theorem ft_9_12 {sc : xm_Sc} : xe_ft (XE sc) 9 12 = .int := rfl
set_option maxRecDepth 20000 in
theorem nf_9_13 {sc : xm_Sc} : xm_nf (xe_cl (XE sc)) 9 13 = True := eq_true rfl
set_option maxRecDepth 20000 in
theorem ft_9_13 {sc : xm_Sc} : xe_ft (XE sc) 9 13 = .int := rfl
set_option maxRecDepth 20000 in
theorem nf_9_14 {sc : xm_Sc} : xm_nf (xe_cl (XE sc)) 9 14 = True := eq_true rfl
set_option maxRecDepth 20000 in
theorem ft_9_14 {sc : xm_Sc} : xe_ft (XE sc) 9 14 = .long := rfl
set_option maxRecDepth 20000 in
theorem nf_9_15 {sc : xm_Sc} : xm_nf (xe_cl (XE sc)) 9 15 = True := eq_true rfl
set_option maxRecDepth 20000 in
theorem ft_9_15 {sc : xm_Sc} : xe_ft (XE sc) 9 15 = .int := rfl
set_option maxRecDepth 20000 in
theorem nf_9_16 {sc : xm_Sc} : xm_nf (xe_cl (XE sc)) 9 16 = True := eq_true rfl
set_option maxRecDepth 20000 in
theorem ft_9_16 {sc : xm_Sc} : xe_ft (XE sc) 9 16 = .int := rfl
set_option maxRecDepth 20000 in
theorem nf_10_0 {sc : xm_Sc} : xm_nf (xe_cl (XE sc)) 10 0 = True := eq_true rfl
set_option maxRecDepth 20000 in
theorem ft_10_0 {sc : xm_Sc} : xe_ft (XE sc) 10 0 = .int := rfl
set_option maxRecDepth 20000 in
theorem nf_10_11 {sc : xm_Sc} : xm_nf (xe_cl (XE sc)) 10 11 = True := eq_true rfl
set_option maxRecDepth 20000 in
theorem ft_10_11 {sc : xm_Sc} : xe_ft (XE sc) 10 11 = .int := rfl
set_option maxRecDepth 20000 in
theorem nf_11_9 {sc : xm_Sc} : xm_nf (xe_cl (XE sc)) 11 9 = True := eq_true rfl
set_option maxRecDepth 20000 in
theorem ft_11_9 {sc : xm_Sc} : xe_ft (XE sc) 11 9 = .object "ComboHouse$Program" := rfl
set_option maxRecDepth 20000 in
theorem nf_11_10 {sc : xm_Sc} : xm_nf (xe_cl (XE sc)) 11 10 = True := eq_true rfl
set_option maxRecDepth 20000 in
theorem ft_11_10 {sc : xm_Sc} : xe_ft (XE sc) 11 10 = .object "ComboHouse$Program" := rfl
set_option maxRecDepth 20000 in
theorem nf_11_11 {sc : xm_Sc} : xm_nf (xe_cl (XE sc)) 11 11 = True := eq_true rfl
set_option maxRecDepth 20000 in
theorem ft_11_11 {sc : xm_Sc} : xe_ft (XE sc) 11 11 = .int := rfl
set_option maxRecDepth 20000 in
theorem nf_11_12 {sc : xm_Sc} : xm_nf (xe_cl (XE sc)) 11 12 = True := eq_true rfl
set_option maxRecDepth 20000 in
theorem ft_11_12 {sc : xm_Sc} : xe_ft (XE sc) 11 12 = .int := rfl
set_option maxRecDepth 20000 in
theorem nf_11_13 {sc : xm_Sc} : xm_nf (xe_cl (XE sc)) 11 13 = True := eq_true rfl
set_option maxRecDepth 20000 in
theorem ft_11_13 {sc : xm_Sc} : xe_ft (XE sc) 11 13 = .int := rfl
set_option maxRecDepth 20000 in
theorem nf_11_14 {sc : xm_Sc} : xm_nf (xe_cl (XE sc)) 11 14 = True := eq_true rfl
set_option maxRecDepth 20000 in
theorem ft_11_14 {sc : xm_Sc} : xe_ft (XE sc) 11 14 = .int := rfl
set_option maxRecDepth 20000 in
theorem nf_11_15 {sc : xm_Sc} : xm_nf (xe_cl (XE sc)) 11 15 = True := eq_true rfl
set_option maxRecDepth 20000 in
theorem ft_11_15 {sc : xm_Sc} : xe_ft (XE sc) 11 15 = .int := rfl
set_option maxRecDepth 20000 in
theorem nf_11_16 {sc : xm_Sc} : xm_nf (xe_cl (XE sc)) 11 16 = True := eq_true rfl
set_option maxRecDepth 20000 in
theorem ft_11_16 {sc : xm_Sc} : xe_ft (XE sc) 11 16 = .int := rfl
set_option maxRecDepth 20000 in
theorem nf_12_0 {sc : xm_Sc} : xm_nf (xe_cl (XE sc)) 12 0 = True := eq_true rfl
set_option maxRecDepth 20000 in
theorem ft_12_0 {sc : xm_Sc} : xe_ft (XE sc) 12 0 = .int := rfl
set_option maxRecDepth 20000 in
theorem nf_12_2 {sc : xm_Sc} : xm_nf (xe_cl (XE sc)) 12 2 = True := eq_true rfl
set_option maxRecDepth 20000 in
theorem ft_12_2 {sc : xm_Sc} : xe_ft (XE sc) 12 2 = .int := rfl
set_option maxRecDepth 20000 in
theorem nf_12_4 {sc : xm_Sc} : xm_nf (xe_cl (XE sc)) 12 4 = True := eq_true rfl
set_option maxRecDepth 20000 in
theorem ft_12_4 {sc : xm_Sc} : xe_ft (XE sc) 12 4 = .int := rfl
set_option maxRecDepth 20000 in
theorem nf_12_5 {sc : xm_Sc} : xm_nf (xe_cl (XE sc)) 12 5 = True := eq_true rfl
set_option maxRecDepth 20000 in
theorem ft_12_5 {sc : xm_Sc} : xe_ft (XE sc) 12 5 = .int := rfl
set_option maxRecDepth 20000 in
theorem nf_12_14 {sc : xm_Sc} : xm_nf (xe_cl (XE sc)) 12 14 = True := eq_true rfl
set_option maxRecDepth 20000 in
theorem ft_12_14 {sc : xm_Sc} : xe_ft (XE sc) 12 14 = .int := rfl
set_option maxRecDepth 20000 in
theorem nf_12_19 {sc : xm_Sc} : xm_nf (xe_cl (XE sc)) 12 19 = True := eq_true rfl
set_option maxRecDepth 20000 in
theorem ft_12_19 {sc : xm_Sc} : xe_ft (XE sc) 12 19 = .int := rfl
set_option maxRecDepth 20000 in
theorem nf_12_32 {sc : xm_Sc} : xm_nf (xe_cl (XE sc)) 12 32 = True := eq_true rfl
set_option maxRecDepth 20000 in
theorem ft_12_32 {sc : xm_Sc} : xe_ft (XE sc) 12 32 = .int := rfl
set_option maxRecDepth 20000 in
theorem nf_12_33 {sc : xm_Sc} : xm_nf (xe_cl (XE sc)) 12 33 = True := eq_true rfl
set_option maxRecDepth 20000 in
theorem ft_12_33 {sc : xm_Sc} : xe_ft (XE sc) 12 33 = .int := rfl
set_option maxRecDepth 20000 in
theorem nf_12_34 {sc : xm_Sc} : xm_nf (xe_cl (XE sc)) 12 34 = True := eq_true rfl
set_option maxRecDepth 20000 in
theorem ft_12_34 {sc : xm_Sc} : xe_ft (XE sc) 12 34 = .int := rfl
set_option maxRecDepth 20000 in
theorem nf_12_35 {sc : xm_Sc} : xm_nf (xe_cl (XE sc)) 12 35 = True := eq_true rfl
set_option maxRecDepth 20000 in
theorem ft_12_35 {sc : xm_Sc} : xe_ft (XE sc) 12 35 = .int := rfl
set_option maxRecDepth 20000 in
theorem nf_12_36 {sc : xm_Sc} : xm_nf (xe_cl (XE sc)) 12 36 = True := eq_true rfl
set_option maxRecDepth 20000 in
theorem ft_12_36 {sc : xm_Sc} : xe_ft (XE sc) 12 36 = .int := rfl
set_option maxRecDepth 20000 in
theorem nf_12_37 {sc : xm_Sc} : xm_nf (xe_cl (XE sc)) 12 37 = True := eq_true rfl
set_option maxRecDepth 20000 in
theorem ft_12_37 {sc : xm_Sc} : xe_ft (XE sc) 12 37 = .long := rfl
set_option maxRecDepth 20000 in
theorem nf_12_38 {sc : xm_Sc} : xm_nf (xe_cl (XE sc)) 12 38 = True := eq_true rfl
set_option maxRecDepth 20000 in
theorem ft_12_38 {sc : xm_Sc} : xe_ft (XE sc) 12 38 = .long := rfl
set_option maxRecDepth 20000 in
theorem nf_12_39 {sc : xm_Sc} : xm_nf (xe_cl (XE sc)) 12 39 = True := eq_true rfl
set_option maxRecDepth 20000 in
theorem ft_12_39 {sc : xm_Sc} : xe_ft (XE sc) 12 39 = .long := rfl
set_option maxRecDepth 20000 in
theorem nf_12_40 {sc : xm_Sc} : xm_nf (xe_cl (XE sc)) 12 40 = True := eq_true rfl
set_option maxRecDepth 20000 in
theorem ft_12_40 {sc : xm_Sc} : xe_ft (XE sc) 12 40 = .int := rfl
set_option maxRecDepth 20000 in
theorem nf_12_50 {sc : xm_Sc} : xm_nf (xe_cl (XE sc)) 12 50 = True := eq_true rfl
set_option maxRecDepth 20000 in
theorem ft_12_50 {sc : xm_Sc} : xe_ft (XE sc) 12 50 = .int := rfl
set_option maxRecDepth 20000 in
theorem nf_12_61 {sc : xm_Sc} : xm_nf (xe_cl (XE sc)) 12 61 = True := eq_true rfl
set_option maxRecDepth 20000 in
theorem ft_12_61 {sc : xm_Sc} : xe_ft (XE sc) 12 61 = .int := rfl
set_option maxRecDepth 20000 in
theorem nf_12_65 {sc : xm_Sc} : xm_nf (xe_cl (XE sc)) 12 65 = True := eq_true rfl
set_option maxRecDepth 20000 in
theorem ft_12_65 {sc : xm_Sc} : xe_ft (XE sc) 12 65 = .int := rfl
set_option maxRecDepth 20000 in
theorem nf_12_66 {sc : xm_Sc} : xm_nf (xe_cl (XE sc)) 12 66 = True := eq_true rfl
set_option maxRecDepth 20000 in
theorem ft_12_66 {sc : xm_Sc} : xe_ft (XE sc) 12 66 = .int := rfl
set_option maxRecDepth 20000 in
theorem nf_12_67 {sc : xm_Sc} : xm_nf (xe_cl (XE sc)) 12 67 = True := eq_true rfl
set_option maxRecDepth 20000 in
theorem ft_12_67 {sc : xm_Sc} : xe_ft (XE sc) 12 67 = .int := rfl
set_option maxRecDepth 20000 in
theorem nf_12_74 {sc : xm_Sc} : xm_nf (xe_cl (XE sc)) 12 74 = True := eq_true rfl
set_option maxRecDepth 20000 in
theorem ft_12_74 {sc : xm_Sc} : xe_ft (XE sc) 12 74 = .int := rfl
set_option maxRecDepth 20000 in
theorem nf_12_75 {sc : xm_Sc} : xm_nf (xe_cl (XE sc)) 12 75 = True := eq_true rfl
set_option maxRecDepth 20000 in
theorem ft_12_75 {sc : xm_Sc} : xe_ft (XE sc) 12 75 = .int := rfl
set_option maxRecDepth 20000 in
theorem nf_12_76 {sc : xm_Sc} : xm_nf (xe_cl (XE sc)) 12 76 = True := eq_true rfl
set_option maxRecDepth 20000 in
theorem ft_12_76 {sc : xm_Sc} : xe_ft (XE sc) 12 76 = .long := rfl
set_option maxRecDepth 20000 in
theorem nf_12_77 {sc : xm_Sc} : xm_nf (xe_cl (XE sc)) 12 77 = True := eq_true rfl
set_option maxRecDepth 20000 in
theorem ft_12_77 {sc : xm_Sc} : xe_ft (XE sc) 12 77 = .long := rfl
set_option maxRecDepth 20000 in
theorem nf_12_78 {sc : xm_Sc} : xm_nf (xe_cl (XE sc)) 12 78 = True := eq_true rfl
set_option maxRecDepth 20000 in
theorem ft_12_78 {sc : xm_Sc} : xe_ft (XE sc) 12 78 = .long := rfl
set_option maxRecDepth 20000 in
theorem nf_12_79 {sc : xm_Sc} : xm_nf (xe_cl (XE sc)) 12 79 = True := eq_true rfl
set_option maxRecDepth 20000 in
theorem ft_12_79 {sc : xm_Sc} : xe_ft (XE sc) 12 79 = .long := rfl
set_option maxRecDepth 20000 in
theorem nf_12_80 {sc : xm_Sc} : xm_nf (xe_cl (XE sc)) 12 80 = True := eq_true rfl
set_option maxRecDepth 20000 in
theorem ft_12_80 {sc : xm_Sc} : xe_ft (XE sc) 12 80 = .long := rfl
set_option maxRecDepth 20000 in
theorem nf_12_81 {sc : xm_Sc} : xm_nf (xe_cl (XE sc)) 12 81 = True := eq_true rfl
set_option maxRecDepth 20000 in
theorem ft_12_81 {sc : xm_Sc} : xe_ft (XE sc) 12 81 = .int := rfl
set_option maxRecDepth 20000 in
theorem nf_12_82 {sc : xm_Sc} : xm_nf (xe_cl (XE sc)) 12 82 = True := eq_true rfl
set_option maxRecDepth 20000 in
theorem ft_12_82 {sc : xm_Sc} : xe_ft (XE sc) 12 82 = .int := rfl
set_option maxRecDepth 20000 in
theorem nf_12_83 {sc : xm_Sc} : xm_nf (xe_cl (XE sc)) 12 83 = True := eq_true rfl
set_option maxRecDepth 20000 in
theorem ft_12_83 {sc : xm_Sc} : xe_ft (XE sc) 12 83 = .int := rfl
set_option maxRecDepth 20000 in
theorem nf_12_84 {sc : xm_Sc} : xm_nf (xe_cl (XE sc)) 12 84 = True := eq_true rfl
set_option maxRecDepth 20000 in
theorem ft_12_84 {sc : xm_Sc} : xe_ft (XE sc) 12 84 = .int := rfl
set_option maxRecDepth 20000 in
theorem nf_12_85 {sc : xm_Sc} : xm_nf (xe_cl (XE sc)) 12 85 = True := eq_true rfl
set_option maxRecDepth 20000 in
theorem ft_12_85 {sc : xm_Sc} : xe_ft (XE sc) 12 85 = .int := rfl
set_option maxRecDepth 20000 in
theorem nf_12_88 {sc : xm_Sc} : xm_nf (xe_cl (XE sc)) 12 88 = True := eq_true rfl
set_option maxRecDepth 20000 in
theorem ft_12_88 {sc : xm_Sc} : xe_ft (XE sc) 12 88 = .int := rfl
set_option maxRecDepth 20000 in
theorem nf_12_92 {sc : xm_Sc} : xm_nf (xe_cl (XE sc)) 12 92 = True := eq_true rfl
set_option maxRecDepth 20000 in
theorem ft_12_92 {sc : xm_Sc} : xe_ft (XE sc) 12 92 = .int := rfl
theorem xw_int {v : Value} : (narrow .int v = v) = True := eq_true (by cases v <;> rfl)
theorem xw_long {v : Value} : (narrow .long v = v) = True := eq_true (by cases v <;> rfl)
theorem xw_obj {s : String} {v : Value} : (narrow (.object s) v = v) = True := eq_true (by cases v <;> rfl)
theorem xw_arr {s : FieldType} {v : Value} : (narrow (.array s) v = v) = True := eq_true (by cases v <;> rfl)
theorem xw_b0 : (narrow .boolean (.int (nI 0)) = .int (nI 0)) = True := eq_true (by decide)
theorem xw_b1 : (narrow .boolean (.int (nI 1)) = .int (nI 1)) = True := eq_true (by decide)
theorem xk_int {x : Int32} : (fits .int (.int x) = true) = True := eq_true rfl
theorem xk_long {x : Int64} : (fits .long (.long x) = true) = True := eq_true rfl
theorem xk_obj {s : String} {x : Nat} : (fits (.object s) (.ref x) = true) = True := eq_true rfl
theorem xk_b0 : (fits .boolean (.int (nI 0)) = true) = True := eq_true (by decide)
theorem xk_b1 : (fits .boolean (.int (nI 1)) = true) = True := eq_true (by decide)
theorem cl_0 : Int64.ofNat ((0 : Fin 2) : Nat) = lN 0 := rfl
theorem cl_1 : Int64.ofNat ((1 : Fin 2) : Nat) = lN 1 := rfl
