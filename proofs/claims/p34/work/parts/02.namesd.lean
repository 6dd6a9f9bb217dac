theorem dX7_capabilities_5 : decode cX7_capabilities 5 = .ok (.iload_n 2, 1) := by decide +kernel
theorem dX7_capabilities_6 : decode cX7_capabilities 6 = .ok (.invokestatic 98, 3) := by decide +kernel
theorem dX7_capabilities_9 : decode cX7_capabilities 9 = .ok (.aload_n 0, 1) := by decide +kernel
theorem dX7_capabilities_10 : decode cX7_capabilities 10 = .ok (.iload_n 1, 1) := by decide +kernel
theorem dX7_capabilities_11 : decode cX7_capabilities 11 = .ok (.iload_n 2, 1) := by decide +kernel
theorem dX7_capabilities_12 : decode cX7_capabilities 12 = .ok (.invokevirtual 170, 3) := by decide +kernel
theorem dX7_capabilities_15 : decode cX7_capabilities 15 = .ok (.ireturn, 1) := by decide +kernel
set_option maxRecDepth 20000 in
theorem ggX7_request_X7_checkToken : GoodIn wsX7_request wsX7_checkToken := goodIn_ca (goodIn_r _ [11, 12, 13, 4, 14, 15, 16, 17, 18, 19, 20, 180, 181, 182, 183, 184, 185, 186, 187, 188, 189, 190, 191, 192, 193, 194, 195, 196, 197, 198, 199, 200, 201, 202] (by decide +kernel) (by decide +kernel)) (goodIn_sub (fun _ h => List.mem_cons_of_mem _ (List.mem_append_left _ (List.mem_append_right _ h))) (by decide +kernel))
set_option maxRecDepth 20000 in
theorem gX7_request_X7_checkToken : GoodIn wsX7_request (wsV RX7 112 RX7 yX7_checkToken wsX7_checkToken) := goodIn_app (goodIn_of _ (by decide +kernel)) ggX7_request_X7_checkToken
set_option maxRecDepth 20000 in
theorem ggX7_request_X7_checkPath : GoodIn wsX7_request wsX7_checkPath := goodIn_ca (goodIn_r _ [23, 24, 25, 26, 27, 28, 29, 30, 31, 32, 33] (by decide +kernel) (by decide +kernel)) (goodIn_sub (fun _ h => List.mem_cons_of_mem _ (List.mem_append_right _ h)) (by decide +kernel))
set_option maxRecDepth 20000 in
theorem gX7_request_X7_checkPath : GoodIn wsX7_request (va_wsS RX7 98 yX7_checkPath wsX7_checkPath) := goodIn_app (goodIn_of _ (by decide +kernel)) ggX7_request_X7_checkPath
set_option maxRecDepth 20000 in
theorem ggX7_request_X7_reasonAgainst : GoodIn wsX7_request wsX7_reasonAgainst := goodIn_r _ [37, 4, 38, 39, 40, 41, 42, 18, 43, 44, 45, 46, 47, 17, 19, 20, 48, 49, 50, 51, 52, 53, 54, 55, 15, 16, 56, 57, 58, 59, 60, 61, 62, 63, 64, 28, 65, 66, 67, 68, 69, 70, 71, 72, 73, 74, 10, 75, 76, 77, 78, 79, 80, 81, 82, 83, 84, 85, 86, 87, 88, 89, 90, 91, 92, 93, 94, 95, 96, 97, 98, 99, 100, 101, 102, 103, 104, 105, 106, 107, 108, 109, 110, 111, 180, 181, 182, 183, 184, 185, 186, 187, 188, 189, 190, 191, 192, 193, 194, 195, 196, 197, 198, 199, 200, 201, 202, 203, 204, 205, 206, 207, 208, 209, 210, 211] (by decide +kernel) (by decide +kernel)
set_option maxRecDepth 20000 in
theorem gX7_request_X7_reasonAgainst : GoodIn wsX7_request (wsV RX7 174 RX7 yX7_reasonAgainst wsX7_reasonAgainst) := goodIn_app (goodIn_of _ (by decide +kernel)) ggX7_request_X7_reasonAgainst
set_option maxRecDepth 20000 in
theorem ggX7_request_X2_living : GoodIn wsX7_request wsX2_living := goodIn_r _ [116, 117, 186, 187, 188, 189, 190, 191, 192, 193, 194, 195, 196, 197, 198, 199, 200, 201, 202] (by decide +kernel) (by decide +kernel)
set_option maxRecDepth 20000 in
theorem gX7_request_X2_living_u177X1 : GoodIn wsX7_request (va_wsU RX7 177 RX1 "SecretBroker$Leased" ⟨"SecretBroker$Credentials", "living", "()I"⟩ yX2_living wsX2_living) := goodIn_app (goodIn_of _ (by decide +kernel)) ggX7_request_X2_living
set_option maxRecDepth 20000 in
theorem ggX7_request_X2_isFull : GoodIn wsX7_request wsX2_isFull := goodIn_r _ [122, 20, 186, 187, 188, 189, 190, 191, 192, 193, 194, 195, 196, 197, 198, 199, 200, 201, 202] (by decide +kernel) (by decide +kernel)
set_option maxRecDepth 20000 in
theorem gX7_request_X2_isFull_u178X1 : GoodIn wsX7_request (va_wsU RX7 178 RX1 "SecretBroker$Leased" ⟨"SecretBroker$Credentials", "isFull", "()Z"⟩ yX2_isFull wsX2_isFull) := goodIn_app (goodIn_of _ (by decide +kernel)) ggX7_request_X2_isFull
set_option maxRecDepth 20000 in
theorem ggX7_request_X6_takeUse : GoodIn wsX7_request wsX6_takeUse := goodIn_r _ [126, 54, 127, 40, 41, 42, 18, 43, 44, 45, 46, 47, 17, 19, 20, 48, 194, 195, 196, 197, 198, 199, 200, 201, 202, 186, 187, 188, 189, 190, 191, 192, 193] (by decide +kernel) (by decide +kernel)
set_option maxRecDepth 20000 in
theorem gX7_request_X6_takeUse : GoodIn wsX7_request (wsV RX7 181 RX6 yX6_takeUse wsX6_takeUse) := goodIn_app (goodIn_of _ (by decide +kernel)) ggX7_request_X6_takeUse
set_option maxRecDepth 20000 in
theorem ggX7_request_X0_write : GoodIn wsX7_request wsX0_write := goodIn_r _ [132, 133, 134, 135, 136, 137, 138, 139, 140, 141, 142, 143, 212, 213, 214, 215, 216] (by decide +kernel) (by decide +kernel)
set_option maxRecDepth 20000 in
theorem gX7_request_X0_write : GoodIn wsX7_request (wsV RX7 140 RX0 yX0_write wsX0_write) := goodIn_app (goodIn_of _ (by decide +kernel)) ggX7_request_X0_write
set_option maxRecDepth 20000 in
theorem ggX7_request_X7_give : GoodIn wsX7_request wsX7_give := goodIn_r _ [147, 38, 6, 3, 56, 57, 58, 59, 60, 61, 62, 63, 64, 28, 65, 66, 67, 68, 69, 70, 71, 148, 149, 150, 151, 152, 153, 154, 155, 156, 157, 158, 159, 160, 161, 162, 163, 164, 165, 18, 166, 20, 167, 168, 169, 44, 117, 170, 171, 172, 173, 174, 175, 176, 177, 178, 179, 17, 19, 180, 181, 182, 183, 184, 185, 203, 204, 205, 206, 186, 187, 188, 189, 190, 191, 192, 193, 194, 195, 196, 197, 198, 199, 200, 201, 202] (by decide +kernel) (by decide +kernel)
set_option maxRecDepth 20000 in
theorem gX7_request_X7_give : GoodIn wsX7_request (wsV RX7 184 RX7 yX7_give wsX7_give) := goodIn_app (goodIn_of _ (by decide +kernel)) ggX7_request_X7_give
theorem dX7_request_0 : decode cX7_request 0 = .ok (.aload_n 0, 1) := by decide +kernel
theorem dX7_request_1 : decode cX7_request 1 = .ok (.iload_n 1, 1) := by decide +kernel
theorem dX7_request_2 : decode cX7_request 2 = .ok (.invokevirtual 112, 3) := by decide +kernel
theorem dX7_request_5 : decode cX7_request 5 = .ok (.iload_n 2, 1) := by decide +kernel
theorem dX7_request_6 : decode cX7_request 6 = .ok (.invokestatic 98, 3) := by decide +kernel
theorem dX7_request_9 : decode cX7_request 9 = .ok (.aload_n 0, 1) := by decide +kernel
theorem dX7_request_10 : decode cX7_request 10 = .ok (.iload_n 1, 1) := by decide +kernel
theorem dX7_request_11 : decode cX7_request 11 = .ok (.iload_n 2, 1) := by decide +kernel
theorem dX7_request_12 : decode cX7_request 12 = .ok (.invokevirtual 174, 3) := by decide +kernel
theorem dX7_request_15 : decode cX7_request 15 = .ok (.istore_n 3, 1) := by decide +kernel
theorem dX7_request_16 : decode cX7_request 16 = .ok (.iload_n 3, 1) := by decide +kernel
theorem dX7_request_17 : decode cX7_request 17 = .ok (.ifCond .ne 35, 3) := by decide +kernel
theorem dX7_request_20 : decode cX7_request 20 = .ok (.aload_n 0, 1) := by decide +kernel
theorem dX7_request_21 : decode cX7_request 21 = .ok (.getfield 33, 3) := by decide +kernel
theorem dX7_request_24 : decode cX7_request 24 = .ok (.invokevirtual 177, 3) := by decide +kernel
theorem dX7_request_27 : decode cX7_request 27 = .ok (.bipush 40, 2) := by decide +kernel
theorem dX7_request_29 : decode cX7_request 29 = .ok (.if_icmp .ge 13, 3) := by decide +kernel
theorem dX7_request_32 : decode cX7_request 32 = .ok (.aload_n 0, 1) := by decide +kernel
theorem dX7_request_33 : decode cX7_request 33 = .ok (.getfield 33, 3) := by decide +kernel
theorem dX7_request_36 : decode cX7_request 36 = .ok (.invokevirtual 178, 3) := by decide +kernel
theorem dX7_request_39 : decode cX7_request 39 = .ok (.ifCond .eq 13, 3) := by decide +kernel
theorem dX7_request_42 : decode cX7_request 42 = .ok (.new 52, 3) := by decide +kernel
theorem dX7_request_45 : decode cX7_request 45 = .ok (.dup, 1) := by decide +kernel
theorem dX7_request_46 : decode cX7_request 46 = .ok (.ldc 179, 2) := by decide +kernel
theorem dX7_request_48 : decode cX7_request 48 = .ok (.invokespecial 56, 3) := by decide +kernel
theorem dX7_request_51 : decode cX7_request 51 = .ok (.athrow, 1) := by decide +kernel
theorem dX7_request_52 : decode cX7_request 52 = .ok (.aload_n 0, 1) := by decide +kernel
theorem dX7_request_53 : decode cX7_request 53 = .ok (.getfield 26, 3) := by decide +kernel
theorem dX7_request_56 : decode cX7_request 56 = .ok (.iload_n 1, 1) := by decide +kernel
theorem dX7_request_57 : decode cX7_request 57 = .ok (.invokevirtual 181, 3) := by decide +kernel
theorem dX7_request_60 : decode cX7_request 60 = .ok (.iload_n 3, 1) := by decide +kernel
theorem dX7_request_61 : decode cX7_request 61 = .ok (.ifCond .eq 19, 3) := by decide +kernel
theorem dX7_request_64 : decode cX7_request 64 = .ok (.aload_n 0, 1) := by decide +kernel
theorem dX7_request_65 : decode cX7_request 65 = .ok (.getfield 40, 3) := by decide +kernel
theorem dX7_request_68 : decode cX7_request 68 = .ok (.iconst 3, 1) := by decide +kernel
theorem dX7_request_69 : decode cX7_request 69 = .ok (.iload_n 1, 1) := by decide +kernel
theorem dX7_request_70 : decode cX7_request 70 = .ok (.iload_n 3, 1) := by decide +kernel
theorem dX7_request_71 : decode cX7_request 71 = .ok (.aload_n 0, 1) := by decide +kernel
theorem dX7_request_72 : decode cX7_request 72 = .ok (.getfield 44, 3) := by decide +kernel
theorem dX7_request_75 : decode cX7_request 75 = .ok (.invokevirtual 140, 3) := by decide +kernel
theorem dX7_request_78 : decode cX7_request 78 = .ok (.iconst (-1), 1) := by decide +kernel
theorem dX7_request_79 : decode cX7_request 79 = .ok (.ireturn, 1) := by decide +kernel
theorem dX7_request_80 : decode cX7_request 80 = .ok (.aload_n 0, 1) := by decide +kernel
theorem dX7_request_81 : decode cX7_request 81 = .ok (.iload_n 1, 1) := by decide +kernel
theorem dX7_request_82 : decode cX7_request 82 = .ok (.iload_n 2, 1) := by decide +kernel
theorem dX7_request_83 : decode cX7_request 83 = .ok (.invokevirtual 184, 3) := by decide +kernel
theorem dX7_request_86 : decode cX7_request 86 = .ok (.istore 4, 2) := by decide +kernel
theorem dX7_request_88 : decode cX7_request 88 = .ok (.aload_n 0, 1) := by decide +kernel
theorem dX7_request_89 : decode cX7_request 89 = .ok (.getfield 40, 3) := by decide +kernel
theorem dX7_request_92 : decode cX7_request 92 = .ok (.iconst 2, 1) := by decide +kernel
theorem dX7_request_93 : decode cX7_request 93 = .ok (.iload_n 1, 1) := by decide +kernel
theorem dX7_request_94 : decode cX7_request 94 = .ok (.iload 4, 2) := by decide +kernel
theorem dX7_request_96 : decode cX7_request 96 = .ok (.aload_n 0, 1) := by decide +kernel
theorem dX7_request_97 : decode cX7_request 97 = .ok (.getfield 44, 3) := by decide +kernel
theorem dX7_request_100 : decode cX7_request 100 = .ok (.invokevirtual 140, 3) := by decide +kernel
theorem dX7_request_103 : decode cX7_request 103 = .ok (.iload 4, 2) := by decide +kernel
theorem dX7_request_105 : decode cX7_request 105 = .ok (.ireturn, 1) := by decide +kernel
set_option maxRecDepth 20000 in
theorem ggX7_whyDenied_X7_checkToken : GoodIn wsX7_whyDenied wsX7_checkToken := goodIn_ca (goodIn_r _ [5, 6, 7, 8, 9, 10, 11, 12, 13, 14, 15, 107, 108, 109, 110, 111, 112, 113, 114, 115, 116, 117, 118, 119, 120, 121, 122, 123, 124, 125, 126, 127, 128, 129] (by decide +kernel) (by decide +kernel)) (goodIn_sub (fun _ h => List.mem_cons_of_mem _ (List.mem_append_left _ (List.mem_append_right _ h))) (by decide +kernel))
set_option maxRecDepth 20000 in
theorem gX7_whyDenied_X7_checkToken : GoodIn wsX7_whyDenied (wsV RX7 112 RX7 yX7_checkToken wsX7_checkToken) := goodIn_app (goodIn_of _ (by decide +kernel)) ggX7_whyDenied_X7_checkToken
set_option maxRecDepth 20000 in
theorem ggX7_whyDenied_X7_checkPath : GoodIn wsX7_whyDenied wsX7_checkPath := goodIn_ca (goodIn_r _ [18, 19, 20, 21, 22, 23, 24, 25, 26, 27, 28] (by decide +kernel) (by decide +kernel)) (goodIn_sub (fun _ h => List.mem_cons_of_mem _ (List.mem_append_right _ h)) (by decide +kernel))
set_option maxRecDepth 20000 in
theorem gX7_whyDenied_X7_checkPath : GoodIn wsX7_whyDenied (va_wsS RX7 98 yX7_checkPath wsX7_checkPath) := goodIn_app (goodIn_of _ (by decide +kernel)) ggX7_whyDenied_X7_checkPath
set_option maxRecDepth 20000 in
theorem ggX7_whyDenied_X7_reasonAgainst : GoodIn wsX7_whyDenied wsX7_reasonAgainst := goodIn_r _ [32, 8, 33, 34, 35, 36, 37, 13, 38, 39, 40, 41, 42, 12, 14, 15, 43, 44, 45, 46, 47, 48, 49, 50, 10, 11, 51, 52, 53, 54, 55, 56, 57, 58, 59, 23, 60, 61, 62, 63, 64, 65, 66, 67, 68, 69, 4, 70, 71, 72, 73, 74, 75, 76, 77, 78, 79, 80, 81, 82, 83, 84, 85, 86, 87, 88, 89, 90, 91, 92, 93, 94, 95, 96, 97, 98, 99, 100, 101, 102, 103, 104, 105, 106, 107, 108, 109, 110, 111, 112, 113, 114, 115, 116, 117, 118, 119, 120, 121, 122, 123, 124, 125, 126, 127, 128, 129, 130, 131, 132, 133, 134, 135, 136, 137, 138] (by decide +kernel) (by decide +kernel)
set_option maxRecDepth 20000 in
theorem gX7_whyDenied_X7_reasonAgainst : GoodIn wsX7_whyDenied (wsV RX7 174 RX7 yX7_reasonAgainst wsX7_reasonAgainst) := goodIn_app (goodIn_of _ (by decide +kernel)) ggX7_whyDenied_X7_reasonAgainst
theorem dX7_whyDenied_0 : decode cX7_whyDenied 0 = .ok (.aload_n 0, 1) := by decide +kernel
theorem dX7_whyDenied_1 : decode cX7_whyDenied 1 = .ok (.iload_n 1, 1) := by decide +kernel
theorem dX7_whyDenied_2 : decode cX7_whyDenied 2 = .ok (.invokevirtual 112, 3) := by decide +kernel
theorem dX7_whyDenied_5 : decode cX7_whyDenied 5 = .ok (.iload_n 2, 1) := by decide +kernel
theorem dX7_whyDenied_6 : decode cX7_whyDenied 6 = .ok (.invokestatic 98, 3) := by decide +kernel
theorem dX7_whyDenied_9 : decode cX7_whyDenied 9 = .ok (.aload_n 0, 1) := by decide +kernel
theorem dX7_whyDenied_10 : decode cX7_whyDenied 10 = .ok (.iload_n 1, 1) := by decide +kernel
theorem dX7_whyDenied_11 : decode cX7_whyDenied 11 = .ok (.iload_n 2, 1) := by decide +kernel
theorem dX7_whyDenied_12 : decode cX7_whyDenied 12 = .ok (.invokevirtual 174, 3) := by decide +kernel
theorem dX7_whyDenied_15 : decode cX7_whyDenied 15 = .ok (.ireturn, 1) := by decide +kernel
set_option maxRecDepth 20000 in
theorem ggX7_renewCredential_X7_checkCredential : GoodIn wsX7_renewCredential wsX7_checkCredential := goodIn_ca (goodIn_r _ [10, 11, 12, 3, 13, 14, 15, 16, 17, 18, 19, 78, 79, 80, 81, 82, 83, 84, 85, 86, 87, 88, 89, 90, 91, 92, 93, 94, 95, 96, 97, 98, 99, 100] (by decide +kernel) (by decide +kernel)) (goodIn_sub (fun _ h => List.mem_cons_of_mem _ (List.mem_append_left _ (List.mem_append_right _ h))) (by decide +kernel))
set_option maxRecDepth 20000 in
theorem gX7_renewCredential_X7_checkCredential : GoodIn wsX7_renewCredential (wsV RX7 187 RX7 yX7_checkCredential wsX7_checkCredential) := goodIn_app (goodIn_of _ (by decide +kernel)) ggX7_renewCredential_X7_checkCredential
set_option maxRecDepth 20000 in
theorem ggX7_renewCredential_X7_checkRange : GoodIn wsX7_renewCredential wsX7_checkRange := goodIn_ca (goodIn_r _ [22, 23, 24] (by decide +kernel) (by decide +kernel)) (goodIn_sub (fun _ h => List.mem_cons_of_mem _ (List.mem_append_right _ h)) (by decide +kernel))
set_option maxRecDepth 20000 in
theorem gX7_renewCredential_X7_checkRange : GoodIn wsX7_renewCredential (va_wsS RX7 77 yX7_checkRange wsX7_checkRange) := goodIn_app (goodIn_of _ (by decide +kernel)) ggX7_renewCredential_X7_checkRange
set_option maxRecDepth 20000 in
theorem ggX7_renewCredential_X2_isOn : GoodIn wsX7_renewCredential wsX2_isOn := goodIn_r _ [29, 30, 31, 32, 33, 16, 17, 18, 19, 34, 84, 85, 86, 87, 88, 89, 90, 91, 92, 93, 94, 95, 96, 97, 98, 99, 100] (by decide +kernel) (by decide +kernel)
set_option maxRecDepth 20000 in
theorem gX7_renewCredential_X2_isOn_u190X1 : GoodIn wsX7_renewCredential (va_wsU RX7 190 RX1 "SecretBroker$Leased" ⟨"SecretBroker$Credentials", "isOn", "(I)Z"⟩ yX2_isOn wsX2_isOn) := goodIn_app (goodIn_of _ (by decide +kernel)) ggX7_renewCredential_X2_isOn
set_option maxRecDepth 20000 in
theorem ggX7_renewCredential_X2_prolong : GoodIn wsX7_renewCredential wsX2_prolong := goodIn_r _ [39, 40, 41, 42, 43, 44, 45, 46, 47, 48, 49, 31, 32, 33, 16, 17, 18, 19, 34, 84, 85, 86, 87, 88, 89, 90, 91, 92, 93, 94, 95, 96, 97, 98, 99, 100] (by decide +kernel) (by decide +kernel)
set_option maxRecDepth 20000 in
theorem gX7_renewCredential_X2_prolong_u193X1 : GoodIn wsX7_renewCredential (va_wsU RX7 193 RX1 "SecretBroker$Leased" ⟨"SecretBroker$Credentials", "prolong", "(III)V"⟩ yX2_prolong wsX2_prolong) := goodIn_app (goodIn_of _ (by decide +kernel)) ggX7_renewCredential_X2_prolong
set_option maxRecDepth 20000 in
theorem ggX7_renewCredential_X2_endAt : GoodIn wsX7_renewCredential wsX2_endAt := goodIn_r _ [54, 42, 31, 32, 33, 16, 17, 18, 19, 34, 84, 85, 86, 87, 88, 89, 90, 91, 92, 93, 94, 95, 96, 97, 98, 99, 100] (by decide +kernel) (by decide +kernel)
set_option maxRecDepth 20000 in
theorem gX7_renewCredential_X2_endAt_u194X1 : GoodIn wsX7_renewCredential (va_wsU RX7 194 RX1 "SecretBroker$Leased" ⟨"SecretBroker$Credentials", "endAt", "(I)I"⟩ yX2_endAt wsX2_endAt) := goodIn_app (goodIn_of _ (by decide +kernel)) ggX7_renewCredential_X2_endAt
set_option maxRecDepth 20000 in
theorem ggX7_renewCredential_X1_ownerAt : GoodIn wsX7_renewCredential wsX1_ownerAt := goodIn_r _ [59, 60, 61, 14, 15, 16, 17, 18, 19, 84, 85, 86, 87, 88, 89, 90, 91, 92, 93, 94, 95, 96, 97, 98, 99, 100] (by decide +kernel) (by decide +kernel)
set_option maxRecDepth 20000 in
theorem gX7_renewCredential_X1_ownerAt : GoodIn wsX7_renewCredential (wsV RX7 195 RX1 yX1_ownerAt wsX1_ownerAt) := goodIn_app (goodIn_of _ (by decide +kernel)) ggX7_renewCredential_X1_ownerAt
set_option maxRecDepth 20000 in
theorem ggX7_renewCredential_X0_write : GoodIn wsX7_renewCredential wsX0_write := goodIn_r _ [66, 67, 68, 69, 70, 71, 72, 73, 74, 75, 76, 77, 101, 102, 103, 104, 105] (by decide +kernel) (by decide +kernel)
set_option maxRecDepth 20000 in
theorem gX7_renewCredential_X0_write : GoodIn wsX7_renewCredential (wsV RX7 140 RX0 yX0_write wsX0_write) := goodIn_app (goodIn_of _ (by decide +kernel)) ggX7_renewCredential_X0_write
theorem dX7_renewCredential_0 : decode cX7_renewCredential 0 = .ok (.aload_n 0, 1) := by decide +kernel
theorem dX7_renewCredential_1 : decode cX7_renewCredential 1 = .ok (.iload_n 1, 1) := by decide +kernel
theorem dX7_renewCredential_2 : decode cX7_renewCredential 2 = .ok (.invokevirtual 187, 3) := by decide +kernel
theorem dX7_renewCredential_5 : decode cX7_renewCredential 5 = .ok (.iload_n 2, 1) := by decide +kernel
theorem dX7_renewCredential_6 : decode cX7_renewCredential 6 = .ok (.iconst 1, 1) := by decide +kernel
theorem dX7_renewCredential_7 : decode cX7_renewCredential 7 = .ok (.sipush 1000, 3) := by decide +kernel
theorem dX7_renewCredential_10 : decode cX7_renewCredential 10 = .ok (.invokestatic 77, 3) := by decide +kernel
theorem dX7_renewCredential_13 : decode cX7_renewCredential 13 = .ok (.aload_n 0, 1) := by decide +kernel
theorem dX7_renewCredential_14 : decode cX7_renewCredential 14 = .ok (.getfield 33, 3) := by decide +kernel
theorem dX7_renewCredential_17 : decode cX7_renewCredential 17 = .ok (.iload_n 1, 1) := by decide +kernel
theorem dX7_renewCredential_18 : decode cX7_renewCredential 18 = .ok (.invokevirtual 190, 3) := by decide +kernel
theorem dX7_renewCredential_21 : decode cX7_renewCredential 21 = .ok (.ifCond .ne 13, 3) := by decide +kernel
theorem dX7_renewCredential_24 : decode cX7_renewCredential 24 = .ok (.new 52, 3) := by decide +kernel
theorem dX7_renewCredential_27 : decode cX7_renewCredential 27 = .ok (.dup, 1) := by decide +kernel
theorem dX7_renewCredential_28 : decode cX7_renewCredential 28 = .ok (.ldc 191, 2) := by decide +kernel
theorem dX7_renewCredential_30 : decode cX7_renewCredential 30 = .ok (.invokespecial 56, 3) := by decide +kernel
theorem dX7_renewCredential_33 : decode cX7_renewCredential 33 = .ok (.athrow, 1) := by decide +kernel
theorem dX7_renewCredential_34 : decode cX7_renewCredential 34 = .ok (.aload_n 0, 1) := by decide +kernel
theorem dX7_renewCredential_35 : decode cX7_renewCredential 35 = .ok (.getfield 33, 3) := by decide +kernel
theorem dX7_renewCredential_38 : decode cX7_renewCredential 38 = .ok (.iload_n 1, 1) := by decide +kernel
theorem dX7_renewCredential_39 : decode cX7_renewCredential 39 = .ok (.aload_n 0, 1) := by decide +kernel
theorem dX7_renewCredential_40 : decode cX7_renewCredential 40 = .ok (.getfield 44, 3) := by decide +kernel
theorem dX7_renewCredential_43 : decode cX7_renewCredential 43 = .ok (.iload_n 2, 1) := by decide +kernel
theorem dX7_renewCredential_44 : decode cX7_renewCredential 44 = .ok (.invokevirtual 193, 3) := by decide +kernel
theorem dX7_renewCredential_47 : decode cX7_renewCredential 47 = .ok (.aload_n 0, 1) := by decide +kernel
theorem dX7_renewCredential_48 : decode cX7_renewCredential 48 = .ok (.getfield 33, 3) := by decide +kernel
theorem dX7_renewCredential_51 : decode cX7_renewCredential 51 = .ok (.iload_n 1, 1) := by decide +kernel
theorem dX7_renewCredential_52 : decode cX7_renewCredential 52 = .ok (.invokevirtual 194, 3) := by decide +kernel
theorem dX7_renewCredential_55 : decode cX7_renewCredential 55 = .ok (.istore_n 3, 1) := by decide +kernel
theorem dX7_renewCredential_56 : decode cX7_renewCredential 56 = .ok (.aload_n 0, 1) := by decide +kernel
theorem dX7_renewCredential_57 : decode cX7_renewCredential 57 = .ok (.getfield 40, 3) := by decide +kernel
theorem dX7_renewCredential_60 : decode cX7_renewCredential 60 = .ok (.iconst 1, 1) := by decide +kernel
theorem dX7_renewCredential_61 : decode cX7_renewCredential 61 = .ok (.aload_n 0, 1) := by decide +kernel
theorem dX7_renewCredential_62 : decode cX7_renewCredential 62 = .ok (.getfield 33, 3) := by decide +kernel
theorem dX7_renewCredential_65 : decode cX7_renewCredential 65 = .ok (.iload_n 1, 1) := by decide +kernel
theorem dX7_renewCredential_66 : decode cX7_renewCredential 66 = .ok (.invokevirtual 195, 3) := by decide +kernel
theorem dX7_renewCredential_69 : decode cX7_renewCredential 69 = .ok (.iload_n 3, 1) := by decide +kernel
theorem dX7_renewCredential_70 : decode cX7_renewCredential 70 = .ok (.aload_n 0, 1) := by decide +kernel
theorem dX7_renewCredential_71 : decode cX7_renewCredential 71 = .ok (.getfield 44, 3) := by decide +kernel
theorem dX7_renewCredential_74 : decode cX7_renewCredential 74 = .ok (.invokevirtual 140, 3) := by decide +kernel
theorem dX7_renewCredential_77 : decode cX7_renewCredential 77 = .ok (.iload_n 3, 1) := by decide +kernel
theorem dX7_renewCredential_78 : decode cX7_renewCredential 78 = .ok (.ireturn, 1) := by decide +kernel
set_option maxRecDepth 20000 in
theorem ggX7_revokeBelow_X7_checkPath : GoodIn wsX7_revokeBelow wsX7_checkPath := goodIn_ca (goodIn_r _ [7, 8, 9, 10, 11, 12, 13, 14, 15, 16, 17] (by decide +kernel) (by decide +kernel)) (goodIn_sub (fun _ h => List.mem_cons_of_mem _ (List.mem_append_right _ h)) (by decide +kernel))
set_option maxRecDepth 20000 in
theorem gX7_revokeBelow_X7_checkPath : GoodIn wsX7_revokeBelow (va_wsS RX7 98 yX7_checkPath wsX7_checkPath) := goodIn_app (goodIn_of _ (by decide +kernel)) ggX7_revokeBelow_X7_checkPath
set_option maxRecDepth 20000 in
theorem ggX7_revokeBelow_X1_endBelow : GoodIn wsX7_revokeBelow wsX1_endBelow := goodIn_r _ [22, 23, 24, 25, 26, 27, 28, 29, 30, 31, 32, 12, 33, 34, 35, 36, 37, 38, 39, 40, 41, 42, 43, 44, 45, 46, 47, 48, 49, 50, 51, 52, 53, 54, 55, 56, 57, 58, 81, 82, 83, 84, 85, 86, 87, 88, 89, 90, 91, 92, 93, 94, 95, 96, 97] (by decide +kernel) (by decide +kernel)
set_option maxRecDepth 20000 in
theorem gX7_revokeBelow_X1_endBelow : GoodIn wsX7_revokeBelow (wsV RX7 198 RX1 yX1_endBelow wsX1_endBelow) := goodIn_app (goodIn_of _ (by decide +kernel)) ggX7_revokeBelow_X1_endBelow
set_option maxRecDepth 20000 in
theorem ggX7_revokeBelow_X0_write : GoodIn wsX7_revokeBelow wsX0_write := goodIn_r _ [63, 64, 65, 66, 67, 68, 69, 70, 71, 72, 73, 74, 98, 99, 100, 101, 102] (by decide +kernel) (by decide +kernel)
set_option maxRecDepth 20000 in
theorem gX7_revokeBelow_X0_write : GoodIn wsX7_revokeBelow (wsV RX7 140 RX0 yX0_write wsX0_write) := goodIn_app (goodIn_of _ (by decide +kernel)) ggX7_revokeBelow_X0_write
theorem dX7_revokeBelow_0 : decode cX7_revokeBelow 0 = .ok (.iload_n 1, 1) := by decide +kernel
theorem dX7_revokeBelow_1 : decode cX7_revokeBelow 1 = .ok (.invokestatic 98, 3) := by decide +kernel
theorem dX7_revokeBelow_4 : decode cX7_revokeBelow 4 = .ok (.aload_n 0, 1) := by decide +kernel
theorem dX7_revokeBelow_5 : decode cX7_revokeBelow 5 = .ok (.getfield 33, 3) := by decide +kernel
theorem dX7_revokeBelow_8 : decode cX7_revokeBelow 8 = .ok (.iload_n 1, 1) := by decide +kernel
theorem dX7_revokeBelow_9 : decode cX7_revokeBelow 9 = .ok (.invokevirtual 198, 3) := by decide +kernel
theorem dX7_revokeBelow_12 : decode cX7_revokeBelow 12 = .ok (.istore_n 2, 1) := by decide +kernel
theorem dX7_revokeBelow_13 : decode cX7_revokeBelow 13 = .ok (.aload_n 0, 1) := by decide +kernel
theorem dX7_revokeBelow_14 : decode cX7_revokeBelow 14 = .ok (.getfield 40, 3) := by decide +kernel
theorem dX7_revokeBelow_17 : decode cX7_revokeBelow 17 = .ok (.iconst 4, 1) := by decide +kernel
theorem dX7_revokeBelow_18 : decode cX7_revokeBelow 18 = .ok (.iconst 0, 1) := by decide +kernel
theorem dX7_revokeBelow_19 : decode cX7_revokeBelow 19 = .ok (.iload_n 2, 1) := by decide +kernel
theorem dX7_revokeBelow_20 : decode cX7_revokeBelow 20 = .ok (.aload_n 0, 1) := by decide +kernel
theorem dX7_revokeBelow_21 : decode cX7_revokeBelow 21 = .ok (.getfield 44, 3) := by decide +kernel
theorem dX7_revokeBelow_24 : decode cX7_revokeBelow 24 = .ok (.invokevirtual 140, 3) := by decide +kernel
theorem dX7_revokeBelow_27 : decode cX7_revokeBelow 27 = .ok (.iload_n 2, 1) := by decide +kernel
theorem dX7_revokeBelow_28 : decode cX7_revokeBelow 28 = .ok (.ireturn, 1) := by decide +kernel
set_option maxRecDepth 20000 in
theorem ggX7_works_X7_checkCredential : GoodIn wsX7_works wsX7_checkCredential := goodIn_ca (goodIn_r _ [6, 7, 8, 1, 9, 10, 11, 12, 13, 14, 15, 26, 27, 28, 29, 30, 31, 32, 33, 34, 35, 36, 37, 38, 39, 40, 41, 42, 43, 44, 45, 46, 47, 48] (by decide +kernel) (by decide +kernel)) (goodIn_sub (fun _ h => List.mem_cons_of_mem _ (List.mem_append_right _ h)) (by decide +kernel))
set_option maxRecDepth 20000 in
theorem gX7_works_X7_checkCredential : GoodIn wsX7_works (wsV RX7 187 RX7 yX7_checkCredential wsX7_checkCredential) := goodIn_app (goodIn_of _ (by decide +kernel)) ggX7_works_X7_checkCredential
set_option maxRecDepth 20000 in
theorem ggX7_works_X2_isOn : GoodIn wsX7_works wsX2_isOn := goodIn_r _ [20, 21, 22, 23, 24, 12, 13, 14, 15, 25, 32, 33, 34, 35, 36, 37, 38, 39, 40, 41, 42, 43, 44, 45, 46, 47, 48] (by decide +kernel) (by decide +kernel)
set_option maxRecDepth 20000 in
theorem gX7_works_X2_isOn_u190X1 : GoodIn wsX7_works (va_wsU RX7 190 RX1 "SecretBroker$Leased" ⟨"SecretBroker$Credentials", "isOn", "(I)Z"⟩ yX2_isOn wsX2_isOn) := goodIn_app (goodIn_of _ (by decide +kernel)) ggX7_works_X2_isOn
theorem dX7_works_0 : decode cX7_works 0 = .ok (.aload_n 0, 1) := by decide +kernel
theorem dX7_works_1 : decode cX7_works 1 = .ok (.iload_n 1, 1) := by decide +kernel
theorem dX7_works_2 : decode cX7_works 2 = .ok (.invokevirtual 187, 3) := by decide +kernel
theorem dX7_works_5 : decode cX7_works 5 = .ok (.aload_n 0, 1) := by decide +kernel
theorem dX7_works_6 : decode cX7_works 6 = .ok (.getfield 33, 3) := by decide +kernel
theorem dX7_works_9 : decode cX7_works 9 = .ok (.iload_n 1, 1) := by decide +kernel
theorem dX7_works_10 : decode cX7_works 10 = .ok (.invokevirtual 190, 3) := by decide +kernel
theorem dX7_works_13 : decode cX7_works 13 = .ok (.ireturn, 1) := by decide +kernel
set_option maxRecDepth 20000 in
theorem ggX7_endOfCredential_X7_checkCredential : GoodIn wsX7_endOfCredential wsX7_checkCredential := goodIn_ca (goodIn_r _ [6, 7, 8, 1, 9, 10, 11, 12, 13, 14, 15, 26, 27, 28, 29, 30, 31, 32, 33, 34, 35, 36, 37, 38, 39, 40, 41, 42, 43, 44, 45, 46, 47, 48] (by decide +kernel) (by decide +kernel)) (goodIn_sub (fun _ h => List.mem_cons_of_mem _ (List.mem_append_right _ h)) (by decide +kernel))
set_option maxRecDepth 20000 in
theorem gX7_endOfCredential_X7_checkCredential : GoodIn wsX7_endOfCredential (wsV RX7 187 RX7 yX7_checkCredential wsX7_checkCredential) := goodIn_app (goodIn_of _ (by decide +kernel)) ggX7_endOfCredential_X7_checkCredential
set_option maxRecDepth 20000 in
theorem ggX7_endOfCredential_X2_endAt : GoodIn wsX7_endOfCredential wsX2_endAt := goodIn_r _ [20, 21, 22, 23, 24, 12, 13, 14, 15, 25, 32, 33, 34, 35, 36, 37, 38, 39, 40, 41, 42, 43, 44, 45, 46, 47, 48] (by decide +kernel) (by decide +kernel)
set_option maxRecDepth 20000 in
theorem gX7_endOfCredential_X2_endAt_u194X1 : GoodIn wsX7_endOfCredential (va_wsU RX7 194 RX1 "SecretBroker$Leased" ⟨"SecretBroker$Credentials", "endAt", "(I)I"⟩ yX2_endAt wsX2_endAt) := goodIn_app (goodIn_of _ (by decide +kernel)) ggX7_endOfCredential_X2_endAt
theorem dX7_endOfCredential_0 : decode cX7_endOfCredential 0 = .ok (.aload_n 0, 1) := by decide +kernel
theorem dX7_endOfCredential_1 : decode cX7_endOfCredential 1 = .ok (.iload_n 1, 1) := by decide +kernel
theorem dX7_endOfCredential_2 : decode cX7_endOfCredential 2 = .ok (.invokevirtual 187, 3) := by decide +kernel
theorem dX7_endOfCredential_5 : decode cX7_endOfCredential 5 = .ok (.aload_n 0, 1) := by decide +kernel
theorem dX7_endOfCredential_6 : decode cX7_endOfCredential 6 = .ok (.getfield 33, 3) := by decide +kernel
theorem dX7_endOfCredential_9 : decode cX7_endOfCredential 9 = .ok (.iload_n 1, 1) := by decide +kernel
theorem dX7_endOfCredential_10 : decode cX7_endOfCredential 10 = .ok (.invokevirtual 194, 3) := by decide +kernel
theorem dX7_endOfCredential_13 : decode cX7_endOfCredential 13 = .ok (.ireturn, 1) := by decide +kernel
set_option maxRecDepth 20000 in
theorem ggX7_credentials_X2_living : GoodIn wsX7_credentials wsX2_living := goodIn_r _ [7, 8, 15, 16, 17, 18, 19, 20, 21, 22, 23, 24, 25, 26, 27, 28, 29, 30, 31] (by decide +kernel) (by decide +kernel)
set_option maxRecDepth 20000 in
theorem gX7_credentials_X2_living_u177X1 : GoodIn wsX7_credentials (va_wsU RX7 177 RX1 "SecretBroker$Leased" ⟨"SecretBroker$Credentials", "living", "()I"⟩ yX2_living wsX2_living) := goodIn_app (goodIn_of _ (by decide +kernel)) ggX7_credentials_X2_living
theorem dX7_credentials_0 : decode cX7_credentials 0 = .ok (.aload_n 0, 1) := by decide +kernel
theorem dX7_credentials_1 : decode cX7_credentials 1 = .ok (.getfield 33, 3) := by decide +kernel
theorem dX7_credentials_4 : decode cX7_credentials 4 = .ok (.invokevirtual 177, 3) := by decide +kernel
theorem dX7_credentials_7 : decode cX7_credentials 7 = .ok (.ireturn, 1) := by decide +kernel
set_option maxRecDepth 20000 in
theorem ggX7_credentialsOf_X7_checkToken : GoodIn wsX7_credentialsOf wsX7_checkToken := goodIn_ca (goodIn_r _ [6, 7, 8, 9, 10, 11, 12, 13, 14, 15, 16, 38, 39, 40, 41, 42, 43, 44, 45, 46, 47, 48, 49, 50, 51, 52, 53, 54, 55, 56, 57, 58, 59, 60] (by decide +kernel) (by decide +kernel)) (goodIn_sub (fun _ h => List.mem_cons_of_mem _ (List.mem_append_right _ h)) (by decide +kernel))
set_option maxRecDepth 20000 in
theorem gX7_credentialsOf_X7_checkToken : GoodIn wsX7_credentialsOf (wsV RX7 112 RX7 yX7_checkToken wsX7_checkToken) := goodIn_app (goodIn_of _ (by decide +kernel)) ggX7_credentialsOf_X7_checkToken
set_option maxRecDepth 20000 in
theorem ggX7_credentialsOf_X1_livingOf : GoodIn wsX7_credentialsOf wsX1_livingOf := goodIn_r _ [21, 22, 23, 24, 25, 26, 14, 27, 16, 28, 29, 30, 31, 32, 33, 34, 35, 36, 13, 15, 37, 44, 45, 46, 47, 48, 49, 50, 51, 52, 53, 54, 55, 56, 57, 58, 59, 60] (by decide +kernel) (by decide +kernel)
set_option maxRecDepth 20000 in
theorem gX7_credentialsOf_X1_livingOf : GoodIn wsX7_credentialsOf (wsV RX7 201 RX1 yX1_livingOf wsX1_livingOf) := goodIn_app (goodIn_of _ (by decide +kernel)) ggX7_credentialsOf_X1_livingOf
theorem dX7_credentialsOf_0 : decode cX7_credentialsOf 0 = .ok (.aload_n 0, 1) := by decide +kernel
theorem dX7_credentialsOf_1 : decode cX7_credentialsOf 1 = .ok (.iload_n 1, 1) := by decide +kernel
theorem dX7_credentialsOf_2 : decode cX7_credentialsOf 2 = .ok (.invokevirtual 112, 3) := by decide +kernel
theorem dX7_credentialsOf_5 : decode cX7_credentialsOf 5 = .ok (.aload_n 0, 1) := by decide +kernel
theorem dX7_credentialsOf_6 : decode cX7_credentialsOf 6 = .ok (.getfield 33, 3) := by decide +kernel
theorem dX7_credentialsOf_9 : decode cX7_credentialsOf 9 = .ok (.iload_n 1, 1) := by decide +kernel
theorem dX7_credentialsOf_10 : decode cX7_credentialsOf 10 = .ok (.invokevirtual 201, 3) := by decide +kernel
theorem dX7_credentialsOf_13 : decode cX7_credentialsOf 13 = .ok (.ireturn, 1) := by decide +kernel
set_option maxRecDepth 20000 in
theorem ggX7_pass_X7_checkRange : GoodIn wsX7_pass wsX7_checkRange := goodIn_ca (goodIn_r _ [8, 9, 10] (by decide +kernel) (by decide +kernel)) (goodIn_sub (fun _ h => List.mem_cons_of_mem _ (List.mem_append_right _ h)) (by decide +kernel))
set_option maxRecDepth 20000 in
theorem gX7_pass_X7_checkRange : GoodIn wsX7_pass (va_wsS RX7 77 yX7_checkRange wsX7_checkRange) := goodIn_app (goodIn_of _ (by decide +kernel)) ggX7_pass_X7_checkRange
set_option maxRecDepth 20000 in
theorem ggX7_pass_X2_endByTime : GoodIn wsX7_pass wsX2_endByTime := goodIn_r _ [16, 17, 18, 19, 20, 21, 22, 15, 23, 24, 25, 26, 27, 28, 29, 30, 31, 32, 33, 34, 35, 36, 37, 38, 98, 99, 100, 101, 102, 103, 104, 105, 106, 107, 108, 109, 110, 111, 112, 113, 114] (by decide +kernel) (by decide +kernel)
set_option maxRecDepth 20000 in
theorem gX7_pass_X2_endByTime_u204X6 : GoodIn wsX7_pass (va_wsU RX7 204 RX6 "SecretBroker$Leased" ⟨"SecretBroker$Tokens", "endByTime", "(I)I"⟩ yX2_endByTime wsX2_endByTime) := goodIn_app (goodIn_of _ (by decide +kernel)) ggX7_pass_X2_endByTime
set_option maxRecDepth 20000 in
theorem gX7_pass_X2_endByTime_u207X1 : GoodIn wsX7_pass (va_wsU RX7 207 RX1 "SecretBroker$Leased" ⟨"SecretBroker$Credentials", "endByTime", "(I)I"⟩ yX2_endByTime wsX2_endByTime) := goodIn_app (goodIn_of _ (by decide +kernel)) ggX7_pass_X2_endByTime
set_option maxRecDepth 20000 in
theorem ggX7_pass_X7_endWhatHungOnTokens : GoodIn wsX7_pass wsX7_endWhatHungOnTokens := goodIn_r _ [45, 2, 3, 46, 47, 48, 49, 50, 51, 52, 53, 54, 55, 15, 56, 17, 57, 58, 59, 29, 30, 24, 31, 32, 33, 34, 35, 36, 60, 61, 62, 22, 23, 25, 26, 27, 28, 37, 63, 64, 65, 66, 67, 68, 69, 70, 71, 72, 73, 74, 75, 92, 93, 94, 95, 96, 97, 106, 107, 108, 109, 110, 111, 112, 113, 114, 98, 99, 100, 101, 102, 103, 104, 105] (by decide +kernel) (by decide +kernel)
set_option maxRecDepth 20000 in
theorem gX7_pass_X7_endWhatHungOnTokens : GoodIn wsX7_pass (wsV RX7 208 RX7 yX7_endWhatHungOnTokens wsX7_endWhatHungOnTokens) := goodIn_app (goodIn_of _ (by decide +kernel)) ggX7_pass_X7_endWhatHungOnTokens
set_option maxRecDepth 20000 in
theorem ggX7_pass_X0_write : GoodIn wsX7_pass wsX0_write := goodIn_r _ [80, 81, 82, 83, 84, 85, 86, 87, 88, 89, 90, 91, 115, 116, 117, 118, 119] (by decide +kernel) (by decide +kernel)
set_option maxRecDepth 20000 in
theorem gX7_pass_X0_write : GoodIn wsX7_pass (wsV RX7 140 RX0 yX0_write wsX0_write) := goodIn_app (goodIn_of _ (by decide +kernel)) ggX7_pass_X0_write
theorem dX7_pass_0 : decode cX7_pass 0 = .ok (.iload_n 1, 1) := by decide +kernel
theorem dX7_pass_1 : decode cX7_pass 1 = .ok (.iconst 1, 1) := by decide +kernel
theorem dX7_pass_2 : decode cX7_pass 2 = .ok (.sipush 1000, 3) := by decide +kernel
theorem dX7_pass_5 : decode cX7_pass 5 = .ok (.invokestatic 77, 3) := by decide +kernel
theorem dX7_pass_8 : decode cX7_pass 8 = .ok (.aload_n 0, 1) := by decide +kernel
theorem dX7_pass_9 : decode cX7_pass 9 = .ok (.dup, 1) := by decide +kernel
theorem dX7_pass_10 : decode cX7_pass 10 = .ok (.getfield 44, 3) := by decide +kernel
theorem dX7_pass_13 : decode cX7_pass 13 = .ok (.iload_n 1, 1) := by decide +kernel
theorem dX7_pass_14 : decode cX7_pass 14 = .ok (.iadd, 1) := by decide +kernel
theorem dX7_pass_15 : decode cX7_pass 15 = .ok (.putfield 44, 3) := by decide +kernel
theorem dX7_pass_18 : decode cX7_pass 18 = .ok (.aload_n 0, 1) := by decide +kernel
theorem dX7_pass_19 : decode cX7_pass 19 = .ok (.getfield 26, 3) := by decide +kernel
theorem dX7_pass_22 : decode cX7_pass 22 = .ok (.aload_n 0, 1) := by decide +kernel
theorem dX7_pass_23 : decode cX7_pass 23 = .ok (.getfield 44, 3) := by decide +kernel
theorem dX7_pass_26 : decode cX7_pass 26 = .ok (.invokevirtual 204, 3) := by decide +kernel
theorem dX7_pass_29 : decode cX7_pass 29 = .ok (.aload_n 0, 1) := by decide +kernel
theorem dX7_pass_30 : decode cX7_pass 30 = .ok (.getfield 33, 3) := by decide +kernel
theorem dX7_pass_33 : decode cX7_pass 33 = .ok (.aload_n 0, 1) := by decide +kernel
theorem dX7_pass_34 : decode cX7_pass 34 = .ok (.getfield 44, 3) := by decide +kernel
theorem dX7_pass_37 : decode cX7_pass 37 = .ok (.invokevirtual 207, 3) := by decide +kernel
theorem dX7_pass_40 : decode cX7_pass 40 = .ok (.iadd, 1) := by decide +kernel
theorem dX7_pass_41 : decode cX7_pass 41 = .ok (.istore_n 2, 1) := by decide +kernel
theorem dX7_pass_42 : decode cX7_pass 42 = .ok (.iload_n 2, 1) := by decide +kernel
theorem dX7_pass_43 : decode cX7_pass 43 = .ok (.aload_n 0, 1) := by decide +kernel
theorem dX7_pass_44 : decode cX7_pass 44 = .ok (.invokevirtual 208, 3) := by decide +kernel
theorem dX7_pass_47 : decode cX7_pass 47 = .ok (.iadd, 1) := by decide +kernel
theorem dX7_pass_48 : decode cX7_pass 48 = .ok (.istore_n 2, 1) := by decide +kernel
theorem dX7_pass_49 : decode cX7_pass 49 = .ok (.iload_n 2, 1) := by decide +kernel
theorem dX7_pass_50 : decode cX7_pass 50 = .ok (.ifCond .le 17, 3) := by decide +kernel
theorem dX7_pass_53 : decode cX7_pass 53 = .ok (.aload_n 0, 1) := by decide +kernel
theorem dX7_pass_54 : decode cX7_pass 54 = .ok (.getfield 40, 3) := by decide +kernel
theorem dX7_pass_57 : decode cX7_pass 57 = .ok (.iconst 5, 1) := by decide +kernel
theorem dX7_pass_58 : decode cX7_pass 58 = .ok (.iconst 0, 1) := by decide +kernel
theorem dX7_pass_59 : decode cX7_pass 59 = .ok (.iload_n 2, 1) := by decide +kernel
theorem dX7_pass_60 : decode cX7_pass 60 = .ok (.aload_n 0, 1) := by decide +kernel
theorem dX7_pass_61 : decode cX7_pass 61 = .ok (.getfield 44, 3) := by decide +kernel
theorem dX7_pass_64 : decode cX7_pass 64 = .ok (.invokevirtual 140, 3) := by decide +kernel
theorem dX7_pass_67 : decode cX7_pass 67 = .ok (.iload_n 2, 1) := by decide +kernel
theorem dX7_pass_68 : decode cX7_pass 68 = .ok (.ireturn, 1) := by decide +kernel
theorem dX7_time_0 : decode cX7_time 0 = .ok (.aload_n 0, 1) := by decide +kernel
theorem dX7_time_1 : decode cX7_time 1 = .ok (.getfield 44, 3) := by decide +kernel
theorem dX7_time_4 : decode cX7_time 4 = .ok (.ireturn, 1) := by decide +kernel
set_option maxRecDepth 20000 in
theorem ggX7_nextEnd_X2_firstEnd : GoodIn wsX7_nextEnd wsX2_firstEnd := goodIn_r _ [15, 16, 17, 18, 28, 29, 30, 31, 32, 33, 34, 35, 36, 37, 38, 39, 40, 41, 42, 43, 44] (by decide +kernel) (by decide +kernel)
set_option maxRecDepth 20000 in
theorem gX7_nextEnd_X2_firstEnd_u211X6 : GoodIn wsX7_nextEnd (va_wsU RX7 211 RX6 "SecretBroker$Leased" ⟨"SecretBroker$Tokens", "firstEnd", "()I"⟩ yX2_firstEnd wsX2_firstEnd) := goodIn_app (goodIn_of _ (by decide +kernel)) ggX7_nextEnd_X2_firstEnd
set_option maxRecDepth 20000 in
theorem gX7_nextEnd_X2_firstEnd_u214X1 : GoodIn wsX7_nextEnd (va_wsU RX7 214 RX1 "SecretBroker$Leased" ⟨"SecretBroker$Credentials", "firstEnd", "()I"⟩ yX2_firstEnd wsX2_firstEnd) := goodIn_app (goodIn_of _ (by decide +kernel)) ggX7_nextEnd_X2_firstEnd
theorem dX7_nextEnd_0 : decode cX7_nextEnd 0 = .ok (.aload_n 0, 1) := by decide +kernel
theorem dX7_nextEnd_1 : decode cX7_nextEnd 1 = .ok (.getfield 26, 3) := by decide +kernel
theorem dX7_nextEnd_4 : decode cX7_nextEnd 4 = .ok (.invokevirtual 211, 3) := by decide +kernel
theorem dX7_nextEnd_7 : decode cX7_nextEnd 7 = .ok (.istore_n 1, 1) := by decide +kernel
theorem dX7_nextEnd_8 : decode cX7_nextEnd 8 = .ok (.aload_n 0, 1) := by decide +kernel
theorem dX7_nextEnd_9 : decode cX7_nextEnd 9 = .ok (.getfield 33, 3) := by decide +kernel
theorem dX7_nextEnd_12 : decode cX7_nextEnd 12 = .ok (.invokevirtual 214, 3) := by decide +kernel
theorem dX7_nextEnd_15 : decode cX7_nextEnd 15 = .ok (.istore_n 2, 1) := by decide +kernel
theorem dX7_nextEnd_16 : decode cX7_nextEnd 16 = .ok (.iload_n 1, 1) := by decide +kernel
theorem dX7_nextEnd_17 : decode cX7_nextEnd 17 = .ok (.iconst (-1), 1) := by decide +kernel
theorem dX7_nextEnd_18 : decode cX7_nextEnd 18 = .ok (.if_icmp .eq 8, 3) := by decide +kernel
theorem dX7_nextEnd_21 : decode cX7_nextEnd 21 = .ok (.iload_n 2, 1) := by decide +kernel
theorem dX7_nextEnd_22 : decode cX7_nextEnd 22 = .ok (.iconst (-1), 1) := by decide +kernel
theorem dX7_nextEnd_23 : decode cX7_nextEnd 23 = .ok (.if_icmp .ne 9, 3) := by decide +kernel
theorem dX7_nextEnd_26 : decode cX7_nextEnd 26 = .ok (.iload_n 1, 1) := by decide +kernel
theorem dX7_nextEnd_27 : decode cX7_nextEnd 27 = .ok (.iload_n 2, 1) := by decide +kernel
theorem dX7_nextEnd_28 : decode cX7_nextEnd 28 = .ok (.invokestatic 215, 3) := by decide +kernel
theorem dX7_nextEnd_31 : decode cX7_nextEnd 31 = .ok (.ireturn, 1) := by decide +kernel
theorem dX7_nextEnd_32 : decode cX7_nextEnd 32 = .ok (.iload_n 1, 1) := by decide +kernel
theorem dX7_nextEnd_33 : decode cX7_nextEnd 33 = .ok (.iload_n 2, 1) := by decide +kernel
theorem dX7_nextEnd_34 : decode cX7_nextEnd 34 = .ok (.invokestatic 220, 3) := by decide +kernel
theorem dX7_nextEnd_37 : decode cX7_nextEnd 37 = .ok (.ireturn, 1) := by decide +kernel
set_option maxRecDepth 20000 in
theorem ggX7_entries_X0_count : GoodIn wsX7_entries wsX0_count := goodIn_r _ [6, 7, 14, 15, 16, 17, 18] (by decide +kernel) (by decide +kernel)
set_option maxRecDepth 20000 in
theorem gX7_entries_X0_count : GoodIn wsX7_entries (wsV RX7 223 RX0 yX0_count wsX0_count) := goodIn_app (goodIn_of _ (by decide +kernel)) ggX7_entries_X0_count
theorem dX7_entries_0 : decode cX7_entries 0 = .ok (.aload_n 0, 1) := by decide +kernel
theorem dX7_entries_1 : decode cX7_entries 1 = .ok (.getfield 40, 3) := by decide +kernel
theorem dX7_entries_4 : decode cX7_entries 4 = .ok (.invokevirtual 223, 3) := by decide +kernel
theorem dX7_entries_7 : decode cX7_entries 7 = .ok (.ireturn, 1) := by decide +kernel
set_option maxRecDepth 20000 in
theorem ggX7_kindOf_X7_checkEntry : GoodIn wsX7_kindOf wsX7_checkEntry := goodIn_ca (goodIn_r _ [6, 7, 8, 1, 9, 10, 11, 12, 13, 14, 21, 22, 23, 24, 25, 26, 27, 28, 29, 30, 31] (by decide +kernel) (by decide +kernel)) (goodIn_sub (fun _ h => List.mem_cons_of_mem _ (List.mem_append_right _ h)) (by decide +kernel))
set_option maxRecDepth 20000 in
theorem gX7_kindOf_X7_checkEntry : GoodIn wsX7_kindOf (wsV RX7 224 RX7 yX7_checkEntry wsX7_checkEntry) := goodIn_app (goodIn_of _ (by decide +kernel)) ggX7_kindOf_X7_checkEntry
set_option maxRecDepth 20000 in
theorem ggX7_kindOf_X0_kindAt : GoodIn wsX7_kindOf wsX0_kindAt := goodIn_r _ [18, 19, 20, 10, 11, 12, 13, 14, 27, 28, 29, 30, 31] (by decide +kernel) (by decide +kernel)
set_option maxRecDepth 20000 in
theorem gX7_kindOf_X0_kindAt : GoodIn wsX7_kindOf (wsV RX7 227 RX0 yX0_kindAt wsX0_kindAt) := goodIn_app (goodIn_of _ (by decide +kernel)) ggX7_kindOf_X0_kindAt
theorem dX7_kindOf_0 : decode cX7_kindOf 0 = .ok (.aload_n 0, 1) := by decide +kernel
theorem dX7_kindOf_1 : decode cX7_kindOf 1 = .ok (.iload_n 1, 1) := by decide +kernel
theorem dX7_kindOf_2 : decode cX7_kindOf 2 = .ok (.invokevirtual 224, 3) := by decide +kernel
theorem dX7_kindOf_5 : decode cX7_kindOf 5 = .ok (.aload_n 0, 1) := by decide +kernel
theorem dX7_kindOf_6 : decode cX7_kindOf 6 = .ok (.getfield 40, 3) := by decide +kernel
theorem dX7_kindOf_9 : decode cX7_kindOf 9 = .ok (.iload_n 1, 1) := by decide +kernel
theorem dX7_kindOf_10 : decode cX7_kindOf 10 = .ok (.invokevirtual 227, 3) := by decide +kernel
theorem dX7_kindOf_13 : decode cX7_kindOf 13 = .ok (.ireturn, 1) := by decide +kernel
set_option maxRecDepth 20000 in
theorem ggX7_subjectOf_X7_checkEntry : GoodIn wsX7_subjectOf wsX7_checkEntry := goodIn_ca (goodIn_r _ [6, 7, 8, 1, 9, 10, 11, 12, 13, 14, 21, 22, 23, 24, 25, 26, 27, 28, 29, 30, 31] (by decide +kernel) (by decide +kernel)) (goodIn_sub (fun _ h => List.mem_cons_of_mem _ (List.mem_append_right _ h)) (by decide +kernel))
set_option maxRecDepth 20000 in
theorem gX7_subjectOf_X7_checkEntry : GoodIn wsX7_subjectOf (wsV RX7 224 RX7 yX7_checkEntry wsX7_checkEntry) := goodIn_app (goodIn_of _ (by decide +kernel)) ggX7_subjectOf_X7_checkEntry
set_option maxRecDepth 20000 in
theorem ggX7_subjectOf_X0_subjectAt : GoodIn wsX7_subjectOf wsX0_subjectAt := goodIn_r _ [18, 19, 20, 10, 11, 12, 13, 14, 27, 28, 29, 30, 31] (by decide +kernel) (by decide +kernel)
set_option maxRecDepth 20000 in
theorem gX7_subjectOf_X0_subjectAt : GoodIn wsX7_subjectOf (wsV RX7 230 RX0 yX0_subjectAt wsX0_subjectAt) := goodIn_app (goodIn_of _ (by decide +kernel)) ggX7_subjectOf_X0_subjectAt
theorem dX7_subjectOf_0 : decode cX7_subjectOf 0 = .ok (.aload_n 0, 1) := by decide +kernel
theorem dX7_subjectOf_1 : decode cX7_subjectOf 1 = .ok (.iload_n 1, 1) := by decide +kernel
theorem dX7_subjectOf_2 : decode cX7_subjectOf 2 = .ok (.invokevirtual 224, 3) := by decide +kernel
theorem dX7_subjectOf_5 : decode cX7_subjectOf 5 = .ok (.aload_n 0, 1) := by decide +kernel
theorem dX7_subjectOf_6 : decode cX7_subjectOf 6 = .ok (.getfield 40, 3) := by decide +kernel
theorem dX7_subjectOf_9 : decode cX7_subjectOf 9 = .ok (.iload_n 1, 1) := by decide +kernel
theorem dX7_subjectOf_10 : decode cX7_subjectOf 10 = .ok (.invokevirtual 230, 3) := by decide +kernel
theorem dX7_subjectOf_13 : decode cX7_subjectOf 13 = .ok (.ireturn, 1) := by decide +kernel
set_option maxRecDepth 20000 in
theorem ggX7_detailOf_X7_checkEntry : GoodIn wsX7_detailOf wsX7_checkEntry := goodIn_ca (goodIn_r _ [6, 7, 8, 1, 9, 10, 11, 12, 13, 14, 21, 22, 23, 24, 25, 26, 27, 28, 29, 30, 31] (by decide +kernel) (by decide +kernel)) (goodIn_sub (fun _ h => List.mem_cons_of_mem _ (List.mem_append_right _ h)) (by decide +kernel))
set_option maxRecDepth 20000 in
theorem gX7_detailOf_X7_checkEntry : GoodIn wsX7_detailOf (wsV RX7 224 RX7 yX7_checkEntry wsX7_checkEntry) := goodIn_app (goodIn_of _ (by decide +kernel)) ggX7_detailOf_X7_checkEntry
set_option maxRecDepth 20000 in
theorem ggX7_detailOf_X0_detailAt : GoodIn wsX7_detailOf wsX0_detailAt := goodIn_r _ [18, 19, 20, 10, 11, 12, 13, 14, 27, 28, 29, 30, 31] (by decide +kernel) (by decide +kernel)
set_option maxRecDepth 20000 in
theorem gX7_detailOf_X0_detailAt : GoodIn wsX7_detailOf (wsV RX7 233 RX0 yX0_detailAt wsX0_detailAt) := goodIn_app (goodIn_of _ (by decide +kernel)) ggX7_detailOf_X0_detailAt
theorem dX7_detailOf_0 : decode cX7_detailOf 0 = .ok (.aload_n 0, 1) := by decide +kernel
theorem dX7_detailOf_1 : decode cX7_detailOf 1 = .ok (.iload_n 1, 1) := by decide +kernel
theorem dX7_detailOf_2 : decode cX7_detailOf 2 = .ok (.invokevirtual 224, 3) := by decide +kernel
theorem dX7_detailOf_5 : decode cX7_detailOf 5 = .ok (.aload_n 0, 1) := by decide +kernel
theorem dX7_detailOf_6 : decode cX7_detailOf 6 = .ok (.getfield 40, 3) := by decide +kernel
theorem dX7_detailOf_9 : decode cX7_detailOf 9 = .ok (.iload_n 1, 1) := by decide +kernel
theorem dX7_detailOf_10 : decode cX7_detailOf 10 = .ok (.invokevirtual 233, 3) := by decide +kernel
theorem dX7_detailOf_13 : decode cX7_detailOf 13 = .ok (.ireturn, 1) := by decide +kernel
set_option maxRecDepth 20000 in
theorem ggX7_sumOf_X7_checkEntry : GoodIn wsX7_sumOf wsX7_checkEntry := goodIn_ca (goodIn_r _ [6, 7, 8, 1, 9, 10, 11, 12, 13, 14, 21, 22, 23, 24, 25, 26, 27, 28, 29, 30, 31] (by decide +kernel) (by decide +kernel)) (goodIn_sub (fun _ h => List.mem_cons_of_mem _ (List.mem_append_right _ h)) (by decide +kernel))
set_option maxRecDepth 20000 in
theorem gX7_sumOf_X7_checkEntry : GoodIn wsX7_sumOf (wsV RX7 224 RX7 yX7_checkEntry wsX7_checkEntry) := goodIn_app (goodIn_of _ (by decide +kernel)) ggX7_sumOf_X7_checkEntry
set_option maxRecDepth 20000 in
theorem ggX7_sumOf_X0_sumAt : GoodIn wsX7_sumOf wsX0_sumAt := goodIn_r _ [18, 19, 20, 10, 11, 12, 13, 14, 27, 28, 29, 30, 31] (by decide +kernel) (by decide +kernel)
set_option maxRecDepth 20000 in
theorem gX7_sumOf_X0_sumAt : GoodIn wsX7_sumOf (wsV RX7 236 RX0 yX0_sumAt wsX0_sumAt) := goodIn_app (goodIn_of _ (by decide +kernel)) ggX7_sumOf_X0_sumAt
theorem dX7_sumOf_0 : decode cX7_sumOf 0 = .ok (.aload_n 0, 1) := by decide +kernel
theorem dX7_sumOf_1 : decode cX7_sumOf 1 = .ok (.iload_n 1, 1) := by decide +kernel
theorem dX7_sumOf_2 : decode cX7_sumOf 2 = .ok (.invokevirtual 224, 3) := by decide +kernel
theorem dX7_sumOf_5 : decode cX7_sumOf 5 = .ok (.aload_n 0, 1) := by decide +kernel
theorem dX7_sumOf_6 : decode cX7_sumOf 6 = .ok (.getfield 40, 3) := by decide +kernel
theorem dX7_sumOf_9 : decode cX7_sumOf 9 = .ok (.iload_n 1, 1) := by decide +kernel
theorem dX7_sumOf_10 : decode cX7_sumOf 10 = .ok (.invokevirtual 236, 3) := by decide +kernel
theorem dX7_sumOf_13 : decode cX7_sumOf 13 = .ok (.lreturn, 1) := by decide +kernel
set_option maxRecDepth 20000 in
theorem ggX7_checkPolicy_X5_has : GoodIn wsX7_checkPolicy wsX5_has := goodIn_r _ [8, 9, 16, 17, 18, 19, 20] (by decide +kernel) (by decide +kernel)
set_option maxRecDepth 20000 in
theorem gX7_checkPolicy_X5_has : GoodIn wsX7_checkPolicy (wsV RX7 240 RX5 yX5_has wsX5_has) := goodIn_app (goodIn_of _ (by decide +kernel)) ggX7_checkPolicy_X5_has
theorem dX7_checkPolicy_0 : decode cX7_checkPolicy 0 = .ok (.aload_n 0, 1) := by decide +kernel
theorem dX7_checkPolicy_1 : decode cX7_checkPolicy 1 = .ok (.getfield 10, 3) := by decide +kernel
theorem dX7_checkPolicy_4 : decode cX7_checkPolicy 4 = .ok (.iload_n 1, 1) := by decide +kernel
theorem dX7_checkPolicy_5 : decode cX7_checkPolicy 5 = .ok (.invokevirtual 240, 3) := by decide +kernel
theorem dX7_checkPolicy_8 : decode cX7_checkPolicy 8 = .ok (.ifCond .ne 13, 3) := by decide +kernel
theorem dX7_checkPolicy_11 : decode cX7_checkPolicy 11 = .ok (.new 243, 3) := by decide +kernel
theorem dX7_checkPolicy_14 : decode cX7_checkPolicy 14 = .ok (.dup, 1) := by decide +kernel
theorem dX7_checkPolicy_15 : decode cX7_checkPolicy 15 = .ok (.ldc 245, 2) := by decide +kernel
theorem dX7_checkPolicy_17 : decode cX7_checkPolicy 17 = .ok (.invokespecial 247, 3) := by decide +kernel
theorem dX7_checkPolicy_20 : decode cX7_checkPolicy 20 = .ok (.athrow, 1) := by decide +kernel
theorem dX7_checkPolicy_21 : decode cX7_checkPolicy 21 = .ok (.return_, 1) := by decide +kernel
set_option maxRecDepth 20000 in
theorem ggX7_checkToken_X2_has : GoodIn wsX7_checkToken wsX2_has := goodIn_r _ [9, 10, 17, 18, 19, 20, 21, 22, 23, 24, 25, 26, 27, 28, 29, 30, 31, 32, 33] (by decide +kernel) (by decide +kernel)
set_option maxRecDepth 20000 in
theorem gX7_checkToken_X2_has_u248X6 : GoodIn wsX7_checkToken (va_wsU RX7 248 RX6 "SecretBroker$Leased" ⟨"SecretBroker$Tokens", "has", "(I)Z"⟩ yX2_has wsX2_has) := goodIn_app (goodIn_of _ (by decide +kernel)) ggX7_checkToken_X2_has
theorem dX7_checkToken_0 : decode cX7_checkToken 0 = .ok (.aload_n 0, 1) := by decide +kernel
theorem dX7_checkToken_1 : decode cX7_checkToken 1 = .ok (.getfield 26, 3) := by decide +kernel
theorem dX7_checkToken_4 : decode cX7_checkToken 4 = .ok (.iload_n 1, 1) := by decide +kernel
theorem dX7_checkToken_5 : decode cX7_checkToken 5 = .ok (.invokevirtual 248, 3) := by decide +kernel
theorem dX7_checkToken_8 : decode cX7_checkToken 8 = .ok (.ifCond .ne 13, 3) := by decide +kernel
theorem dX7_checkToken_11 : decode cX7_checkToken 11 = .ok (.new 243, 3) := by decide +kernel
theorem dX7_checkToken_14 : decode cX7_checkToken 14 = .ok (.dup, 1) := by decide +kernel
theorem dX7_checkToken_15 : decode cX7_checkToken 15 = .ok (.ldc 249, 2) := by decide +kernel
theorem dX7_checkToken_17 : decode cX7_checkToken 17 = .ok (.invokespecial 247, 3) := by decide +kernel
theorem dX7_checkToken_20 : decode cX7_checkToken 20 = .ok (.athrow, 1) := by decide +kernel
theorem dX7_checkToken_21 : decode cX7_checkToken 21 = .ok (.return_, 1) := by decide +kernel
set_option maxRecDepth 20000 in
theorem ggX7_checkCredential_X2_has : GoodIn wsX7_checkCredential wsX2_has := goodIn_r _ [9, 10, 17, 18, 19, 20, 21, 22, 23, 24, 25, 26, 27, 28, 29, 30, 31, 32, 33] (by decide +kernel) (by decide +kernel)
set_option maxRecDepth 20000 in
theorem gX7_checkCredential_X2_has_u251X1 : GoodIn wsX7_checkCredential (va_wsU RX7 251 RX1 "SecretBroker$Leased" ⟨"SecretBroker$Credentials", "has", "(I)Z"⟩ yX2_has wsX2_has) := goodIn_app (goodIn_of _ (by decide +kernel)) ggX7_checkCredential_X2_has
theorem dX7_checkCredential_0 : decode cX7_checkCredential 0 = .ok (.aload_n 0, 1) := by decide +kernel
theorem dX7_checkCredential_1 : decode cX7_checkCredential 1 = .ok (.getfield 33, 3) := by decide +kernel
theorem dX7_checkCredential_4 : decode cX7_checkCredential 4 = .ok (.iload_n 1, 1) := by decide +kernel
theorem dX7_checkCredential_5 : decode cX7_checkCredential 5 = .ok (.invokevirtual 251, 3) := by decide +kernel
theorem dX7_checkCredential_8 : decode cX7_checkCredential 8 = .ok (.ifCond .ne 13, 3) := by decide +kernel
theorem dX7_checkCredential_11 : decode cX7_checkCredential 11 = .ok (.new 243, 3) := by decide +kernel
theorem dX7_checkCredential_14 : decode cX7_checkCredential 14 = .ok (.dup, 1) := by decide +kernel
theorem dX7_checkCredential_15 : decode cX7_checkCredential 15 = .ok (.ldc 252, 2) := by decide +kernel
theorem dX7_checkCredential_17 : decode cX7_checkCredential 17 = .ok (.invokespecial 247, 3) := by decide +kernel
theorem dX7_checkCredential_20 : decode cX7_checkCredential 20 = .ok (.athrow, 1) := by decide +kernel
theorem dX7_checkCredential_21 : decode cX7_checkCredential 21 = .ok (.return_, 1) := by decide +kernel
set_option maxRecDepth 20000 in
theorem ggX7_checkEntry_X0_has : GoodIn wsX7_checkEntry wsX0_has := goodIn_r _ [8, 9, 16, 17, 18, 19, 20] (by decide +kernel) (by decide +kernel)
set_option maxRecDepth 20000 in
theorem gX7_checkEntry_X0_has : GoodIn wsX7_checkEntry (wsV RX7 254 RX0 yX0_has wsX0_has) := goodIn_app (goodIn_of _ (by decide +kernel)) ggX7_checkEntry_X0_has
theorem dX7_checkEntry_0 : decode cX7_checkEntry 0 = .ok (.aload_n 0, 1) := by decide +kernel
theorem dX7_checkEntry_1 : decode cX7_checkEntry 1 = .ok (.getfield 40, 3) := by decide +kernel
theorem dX7_checkEntry_4 : decode cX7_checkEntry 4 = .ok (.iload_n 1, 1) := by decide +kernel
theorem dX7_checkEntry_5 : decode cX7_checkEntry 5 = .ok (.invokevirtual 254, 3) := by decide +kernel
theorem dX7_checkEntry_8 : decode cX7_checkEntry 8 = .ok (.ifCond .ne 13, 3) := by decide +kernel
theorem dX7_checkEntry_11 : decode cX7_checkEntry 11 = .ok (.new 243, 3) := by decide +kernel
theorem dX7_checkEntry_14 : decode cX7_checkEntry 14 = .ok (.dup, 1) := by decide +kernel
theorem dX7_checkEntry_15 : decode cX7_checkEntry 15 = .ok (.ldc 255, 2) := by decide +kernel
theorem dX7_checkEntry_17 : decode cX7_checkEntry 17 = .ok (.invokespecial 247, 3) := by decide +kernel
theorem dX7_checkEntry_20 : decode cX7_checkEntry 20 = .ok (.athrow, 1) := by decide +kernel
theorem dX7_checkEntry_21 : decode cX7_checkEntry 21 = .ok (.return_, 1) := by decide +kernel
set_option maxRecDepth 20000 in
theorem ggX7_checkAliveToken_X2_isOn : GoodIn wsX7_checkAliveToken wsX2_isOn := goodIn_r _ [9, 10, 11, 12, 13, 14, 8, 15, 16, 17, 24, 25, 26, 27, 28, 29, 30, 31, 32, 33, 34, 35, 36, 37, 38, 39, 40] (by decide +kernel) (by decide +kernel)
set_option maxRecDepth 20000 in
theorem gX7_checkAliveToken_X2_isOn_u158X6 : GoodIn wsX7_checkAliveToken (va_wsU RX7 158 RX6 "SecretBroker$Leased" ⟨"SecretBroker$Tokens", "isOn", "(I)Z"⟩ yX2_isOn wsX2_isOn) := goodIn_app (goodIn_of _ (by decide +kernel)) ggX7_checkAliveToken_X2_isOn
theorem dX7_checkAliveToken_0 : decode cX7_checkAliveToken 0 = .ok (.aload_n 0, 1) := by decide +kernel
theorem dX7_checkAliveToken_1 : decode cX7_checkAliveToken 1 = .ok (.getfield 26, 3) := by decide +kernel
theorem dX7_checkAliveToken_4 : decode cX7_checkAliveToken 4 = .ok (.iload_n 1, 1) := by decide +kernel
theorem dX7_checkAliveToken_5 : decode cX7_checkAliveToken 5 = .ok (.invokevirtual 158, 3) := by decide +kernel
theorem dX7_checkAliveToken_8 : decode cX7_checkAliveToken 8 = .ok (.ifCond .ne 14, 3) := by decide +kernel
theorem dX7_checkAliveToken_11 : decode cX7_checkAliveToken 11 = .ok (.new 52, 3) := by decide +kernel
theorem dX7_checkAliveToken_14 : decode cX7_checkAliveToken 14 = .ok (.dup, 1) := by decide +kernel
theorem dX7_checkAliveToken_15 : decode cX7_checkAliveToken 15 = .ok (.ldc_w 257, 3) := by decide +kernel
theorem dX7_checkAliveToken_18 : decode cX7_checkAliveToken 18 = .ok (.invokespecial 56, 3) := by decide +kernel
theorem dX7_checkAliveToken_21 : decode cX7_checkAliveToken 21 = .ok (.athrow, 1) := by decide +kernel
theorem dX7_checkAliveToken_22 : decode cX7_checkAliveToken 22 = .ok (.return_, 1) := by decide +kernel
set_option maxRecDepth 20000 in
theorem ggX7_checkEndingToken_X7_checkAliveToken : GoodIn wsX7_checkEndingToken wsX7_checkAliveToken := goodIn_ca (goodIn_r _ [7, 1, 2, 8, 9, 10, 11, 12, 13, 14, 15, 16, 17, 18, 19, 20, 21, 22, 23, 24, 25, 26, 27, 28, 29, 30, 31, 32, 33, 34, 35, 36, 37, 38, 39, 40, 41, 42, 43, 44, 45] (by decide +kernel) (by decide +kernel)) (goodIn_sub (fun _ h => List.mem_cons_of_mem _ (List.mem_append_right _ h)) (by decide +kernel))
set_option maxRecDepth 20000 in
theorem gX7_checkEndingToken_X7_checkAliveToken : GoodIn wsX7_checkEndingToken (wsV RX7 121 RX7 yX7_checkAliveToken wsX7_checkAliveToken) := goodIn_app (goodIn_of _ (by decide +kernel)) ggX7_checkEndingToken_X7_checkAliveToken
theorem dX7_checkEndingToken_0 : decode cX7_checkEndingToken 0 = .ok (.iload_n 1, 1) := by decide +kernel
theorem dX7_checkEndingToken_1 : decode cX7_checkEndingToken 1 = .ok (.ifCond .ne 14, 3) := by decide +kernel
theorem dX7_checkEndingToken_4 : decode cX7_checkEndingToken 4 = .ok (.new 52, 3) := by decide +kernel
theorem dX7_checkEndingToken_7 : decode cX7_checkEndingToken 7 = .ok (.dup, 1) := by decide +kernel
theorem dX7_checkEndingToken_8 : decode cX7_checkEndingToken 8 = .ok (.ldc_w 259, 3) := by decide +kernel
theorem dX7_checkEndingToken_11 : decode cX7_checkEndingToken 11 = .ok (.invokespecial 56, 3) := by decide +kernel
theorem dX7_checkEndingToken_14 : decode cX7_checkEndingToken 14 = .ok (.athrow, 1) := by decide +kernel
theorem dX7_checkEndingToken_15 : decode cX7_checkEndingToken 15 = .ok (.aload_n 0, 1) := by decide +kernel
theorem dX7_checkEndingToken_16 : decode cX7_checkEndingToken 16 = .ok (.iload_n 1, 1) := by decide +kernel
theorem dX7_checkEndingToken_17 : decode cX7_checkEndingToken 17 = .ok (.invokevirtual 121, 3) := by decide +kernel
theorem dX7_checkEndingToken_20 : decode cX7_checkEndingToken 20 = .ok (.return_, 1) := by decide +kernel
set_option maxRecDepth 20000 in
theorem ggX7_checkPath_X4_isPath : GoodIn wsX7_checkPath wsX4_isPath := goodIn_r _ [6, 7, 8, 5, 9, 10] (by decide +kernel) (by decide +kernel)
set_option maxRecDepth 20000 in
theorem gX7_checkPath_X4_isPath : GoodIn wsX7_checkPath (va_wsS RX7 261 yX4_isPath wsX4_isPath) := goodIn_app (goodIn_of _ (by decide +kernel)) ggX7_checkPath_X4_isPath
theorem dX7_checkPath_0 : decode cX7_checkPath 0 = .ok (.iload_n 0, 1) := by decide +kernel
theorem dX7_checkPath_1 : decode cX7_checkPath 1 = .ok (.invokestatic 261, 3) := by decide +kernel
theorem dX7_checkPath_4 : decode cX7_checkPath 4 = .ok (.ifCond .ne 14, 3) := by decide +kernel
theorem dX7_checkPath_7 : decode cX7_checkPath 7 = .ok (.new 72, 3) := by decide +kernel
theorem dX7_checkPath_10 : decode cX7_checkPath 10 = .ok (.dup, 1) := by decide +kernel
theorem dX7_checkPath_11 : decode cX7_checkPath 11 = .ok (.ldc_w 264, 3) := by decide +kernel
theorem dX7_checkPath_14 : decode cX7_checkPath 14 = .ok (.invokespecial 76, 3) := by decide +kernel
theorem dX7_checkPath_17 : decode cX7_checkPath 17 = .ok (.athrow, 1) := by decide +kernel
theorem dX7_checkPath_18 : decode cX7_checkPath 18 = .ok (.return_, 1) := by decide +kernel
set_option maxRecDepth 20000 in
theorem ggX7_checkLease_X7_checkRange : GoodIn wsX7_checkLease wsX7_checkRange := goodIn_ca (goodIn_r _ [4, 5, 6] (by decide +kernel) (by decide +kernel)) (goodIn_sub (fun _ h => List.mem_cons_of_mem _ (List.mem_append_right _ h)) (by decide +kernel))
set_option maxRecDepth 20000 in
theorem gX7_checkLease_X7_checkRange : GoodIn wsX7_checkLease (va_wsS RX7 77 yX7_checkRange wsX7_checkRange) := goodIn_app (goodIn_of _ (by decide +kernel)) ggX7_checkLease_X7_checkRange
theorem dX7_checkLease_0 : decode cX7_checkLease 0 = .ok (.iload_n 0, 1) := by decide +kernel
theorem dX7_checkLease_1 : decode cX7_checkLease 1 = .ok (.iconst 1, 1) := by decide +kernel
theorem dX7_checkLease_2 : decode cX7_checkLease 2 = .ok (.sipush 1000, 3) := by decide +kernel
theorem dX7_checkLease_5 : decode cX7_checkLease 5 = .ok (.invokestatic 77, 3) := by decide +kernel
theorem dX7_checkLease_8 : decode cX7_checkLease 8 = .ok (.iload_n 1, 1) := by decide +kernel
theorem dX7_checkLease_9 : decode cX7_checkLease 9 = .ok (.iload_n 0, 1) := by decide +kernel
theorem dX7_checkLease_10 : decode cX7_checkLease 10 = .ok (.sipush 5000, 3) := by decide +kernel
theorem dX7_checkLease_13 : decode cX7_checkLease 13 = .ok (.invokestatic 77, 3) := by decide +kernel
theorem dX7_checkLease_16 : decode cX7_checkLease 16 = .ok (.return_, 1) := by decide +kernel
theorem dX7_checkRange_0 : decode cX7_checkRange 0 = .ok (.iload_n 0, 1) := by decide +kernel
theorem dX7_checkRange_1 : decode cX7_checkRange 1 = .ok (.iload_n 1, 1) := by decide +kernel
theorem dX7_checkRange_2 : decode cX7_checkRange 2 = .ok (.if_icmp .lt 8, 3) := by decide +kernel
theorem dX7_checkRange_5 : decode cX7_checkRange 5 = .ok (.iload_n 0, 1) := by decide +kernel
theorem dX7_checkRange_6 : decode cX7_checkRange 6 = .ok (.iload_n 2, 1) := by decide +kernel
theorem dX7_checkRange_7 : decode cX7_checkRange 7 = .ok (.if_icmp .le 14, 3) := by decide +kernel
theorem dX7_checkRange_10 : decode cX7_checkRange 10 = .ok (.new 72, 3) := by decide +kernel
theorem dX7_checkRange_13 : decode cX7_checkRange 13 = .ok (.dup, 1) := by decide +kernel
theorem dX7_checkRange_14 : decode cX7_checkRange 14 = .ok (.ldc_w 266, 3) := by decide +kernel
theorem dX7_checkRange_17 : decode cX7_checkRange 17 = .ok (.invokespecial 76, 3) := by decide +kernel
theorem dX7_checkRange_20 : decode cX7_checkRange 20 = .ok (.athrow, 1) := by decide +kernel
theorem dX7_checkRange_21 : decode cX7_checkRange 21 = .ok (.return_, 1) := by decide +kernel
set_option maxRecDepth 20000 in
theorem ggX7_mayHand_X5_hasAll : GoodIn wsX7_mayHand wsX5_hasAll := goodIn_r _ [7, 8, 28, 29, 30, 31, 32] (by decide +kernel) (by decide +kernel)
set_option maxRecDepth 20000 in
theorem gX7_mayHand_X5_hasAll : GoodIn wsX7_mayHand (wsV RX7 268 RX5 yX5_hasAll wsX5_hasAll) := goodIn_app (goodIn_of _ (by decide +kernel)) ggX7_mayHand_X5_hasAll
set_option maxRecDepth 20000 in
theorem ggX7_mayHand_X6_policiesAt : GoodIn wsX7_mayHand wsX6_policiesAt := goodIn_r _ [13, 14, 15, 16, 17, 18, 19, 20, 21, 33, 34, 35, 36, 37, 38, 39, 40, 41, 42, 43, 44, 45, 46, 47, 48, 49] (by decide +kernel) (by decide +kernel)
set_option maxRecDepth 20000 in
theorem gX7_mayHand_X6_policiesAt : GoodIn wsX7_mayHand (wsV RX7 271 RX6 yX6_policiesAt wsX6_policiesAt) := goodIn_app (goodIn_of _ (by decide +kernel)) ggX7_mayHand_X6_policiesAt
theorem dX7_mayHand_0 : decode cX7_mayHand 0 = .ok (.aload_n 0, 1) := by decide +kernel
theorem dX7_mayHand_1 : decode cX7_mayHand 1 = .ok (.getfield 10, 3) := by decide +kernel
theorem dX7_mayHand_4 : decode cX7_mayHand 4 = .ok (.iload_n 2, 1) := by decide +kernel
theorem dX7_mayHand_5 : decode cX7_mayHand 5 = .ok (.invokevirtual 268, 3) := by decide +kernel
theorem dX7_mayHand_8 : decode cX7_mayHand 8 = .ok (.ifCond .ne 5, 3) := by decide +kernel
theorem dX7_mayHand_11 : decode cX7_mayHand 11 = .ok (.iconst 0, 1) := by decide +kernel
theorem dX7_mayHand_12 : decode cX7_mayHand 12 = .ok (.ireturn, 1) := by decide +kernel
theorem dX7_mayHand_13 : decode cX7_mayHand 13 = .ok (.iload_n 1, 1) := by decide +kernel
theorem dX7_mayHand_14 : decode cX7_mayHand 14 = .ok (.ifCond .eq 18, 3) := by decide +kernel
theorem dX7_mayHand_17 : decode cX7_mayHand 17 = .ok (.iload_n 2, 1) := by decide +kernel
theorem dX7_mayHand_18 : decode cX7_mayHand 18 = .ok (.aload_n 0, 1) := by decide +kernel
theorem dX7_mayHand_19 : decode cX7_mayHand 19 = .ok (.getfield 26, 3) := by decide +kernel
theorem dX7_mayHand_22 : decode cX7_mayHand 22 = .ok (.iload_n 1, 1) := by decide +kernel
theorem dX7_mayHand_23 : decode cX7_mayHand 23 = .ok (.invokevirtual 271, 3) := by decide +kernel
theorem dX7_mayHand_26 : decode cX7_mayHand 26 = .ok (.iconst (-1), 1) := by decide +kernel
theorem dX7_mayHand_27 : decode cX7_mayHand 27 = .ok (.ixor, 1) := by decide +kernel
theorem dX7_mayHand_28 : decode cX7_mayHand 28 = .ok (.iand, 1) := by decide +kernel
theorem dX7_mayHand_29 : decode cX7_mayHand 29 = .ok (.ifCond .ne 7, 3) := by decide +kernel
theorem dX7_mayHand_32 : decode cX7_mayHand 32 = .ok (.iconst 1, 1) := by decide +kernel
theorem dX7_mayHand_33 : decode cX7_mayHand 33 = .ok (.goto 4, 3) := by decide +kernel
theorem dX7_mayHand_36 : decode cX7_mayHand 36 = .ok (.iconst 0, 1) := by decide +kernel
theorem dX7_mayHand_37 : decode cX7_mayHand 37 = .ok (.ireturn, 1) := by decide +kernel
set_option maxRecDepth 20000 in
theorem ggX7_capabilitiesAt_X6_policiesAt : GoodIn wsX7_capabilitiesAt wsX6_policiesAt := goodIn_r _ [7, 8, 9, 10, 11, 12, 13, 14, 15, 59, 60, 61, 62, 63, 64, 65, 66, 67, 68, 69, 70, 71, 72, 73, 74, 75] (by decide +kernel) (by decide +kernel)
set_option maxRecDepth 20000 in
theorem gX7_capabilitiesAt_X6_policiesAt : GoodIn wsX7_capabilitiesAt (wsV RX7 271 RX6 yX6_policiesAt wsX6_policiesAt) := goodIn_app (goodIn_of _ (by decide +kernel)) ggX7_capabilitiesAt_X6_policiesAt
set_option maxRecDepth 20000 in
theorem ggX7_capabilitiesAt_X5_together : GoodIn wsX7_capabilitiesAt wsX5_together := goodIn_r _ [20, 21, 22, 23, 24, 19, 25, 26, 27, 28, 29, 30, 31, 32, 33, 34, 35, 36, 37, 38, 39, 40, 41, 42, 43, 44, 45, 46, 47, 48, 49, 50, 51, 52, 76, 77, 78, 79, 80] (by decide +kernel) (by decide +kernel)
set_option maxRecDepth 20000 in
theorem gX7_capabilitiesAt_X5_together : GoodIn wsX7_capabilitiesAt (wsV RX7 274 RX5 yX5_together wsX5_together) := goodIn_app (goodIn_of _ (by decide +kernel)) ggX7_capabilitiesAt_X5_together
theorem dX7_capabilitiesAt_0 : decode cX7_capabilitiesAt 0 = .ok (.iload_n 1, 1) := by decide +kernel
theorem dX7_capabilitiesAt_1 : decode cX7_capabilitiesAt 1 = .ok (.ifCond .ne 6, 3) := by decide +kernel
theorem dX7_capabilitiesAt_4 : decode cX7_capabilitiesAt 4 = .ok (.bipush 7, 2) := by decide +kernel
theorem dX7_capabilitiesAt_6 : decode cX7_capabilitiesAt 6 = .ok (.ireturn, 1) := by decide +kernel
theorem dX7_capabilitiesAt_7 : decode cX7_capabilitiesAt 7 = .ok (.aload_n 0, 1) := by decide +kernel
theorem dX7_capabilitiesAt_8 : decode cX7_capabilitiesAt 8 = .ok (.getfield 10, 3) := by decide +kernel
theorem dX7_capabilitiesAt_11 : decode cX7_capabilitiesAt 11 = .ok (.aload_n 0, 1) := by decide +kernel
theorem dX7_capabilitiesAt_12 : decode cX7_capabilitiesAt 12 = .ok (.getfield 26, 3) := by decide +kernel
theorem dX7_capabilitiesAt_15 : decode cX7_capabilitiesAt 15 = .ok (.iload_n 1, 1) := by decide +kernel
theorem dX7_capabilitiesAt_16 : decode cX7_capabilitiesAt 16 = .ok (.invokevirtual 271, 3) := by decide +kernel
theorem dX7_capabilitiesAt_19 : decode cX7_capabilitiesAt 19 = .ok (.iload_n 2, 1) := by decide +kernel
theorem dX7_capabilitiesAt_20 : decode cX7_capabilitiesAt 20 = .ok (.invokevirtual 274, 3) := by decide +kernel
theorem dX7_capabilitiesAt_23 : decode cX7_capabilitiesAt 23 = .ok (.istore_n 3, 1) := by decide +kernel
theorem dX7_capabilitiesAt_24 : decode cX7_capabilitiesAt 24 = .ok (.iload_n 3, 1) := by decide +kernel
theorem dX7_capabilitiesAt_25 : decode cX7_capabilitiesAt 25 = .ok (.bipush 8, 2) := by decide +kernel
theorem dX7_capabilitiesAt_27 : decode cX7_capabilitiesAt 27 = .ok (.iand, 1) := by decide +kernel
theorem dX7_capabilitiesAt_28 : decode cX7_capabilitiesAt 28 = .ok (.ifCond .ne 7, 3) := by decide +kernel
theorem dX7_capabilitiesAt_31 : decode cX7_capabilitiesAt 31 = .ok (.iload_n 3, 1) := by decide +kernel
theorem dX7_capabilitiesAt_32 : decode cX7_capabilitiesAt 32 = .ok (.goto 4, 3) := by decide +kernel
theorem dX7_capabilitiesAt_35 : decode cX7_capabilitiesAt 35 = .ok (.iconst 0, 1) := by decide +kernel
theorem dX7_capabilitiesAt_36 : decode cX7_capabilitiesAt 36 = .ok (.ireturn, 1) := by decide +kernel
set_option maxRecDepth 20000 in
theorem ggX7_reasonAgainst_X2_isOn : GoodIn wsX7_reasonAgainst wsX2_isOn := goodIn_r _ [8, 9, 10, 11, 12, 13, 7, 14, 15, 16, 90, 91, 92, 93, 94, 95, 96, 97, 98, 99, 100, 101, 102, 103, 104, 105, 106] (by decide +kernel) (by decide +kernel)
set_option maxRecDepth 20000 in
theorem gX7_reasonAgainst_X2_isOn_u158X6 : GoodIn wsX7_reasonAgainst (va_wsU RX7 158 RX6 "SecretBroker$Leased" ⟨"SecretBroker$Tokens", "isOn", "(I)Z"⟩ yX2_isOn wsX2_isOn) := goodIn_app (goodIn_of _ (by decide +kernel)) ggX7_reasonAgainst_X2_isOn
set_option maxRecDepth 20000 in
theorem ggX7_reasonAgainst_X6_usesAt : GoodIn wsX7_reasonAgainst wsX6_usesAt := goodIn_r _ [21, 22, 23, 24, 25, 13, 7, 14, 15, 98, 99, 100, 101, 102, 103, 104, 105, 106, 90, 91, 92, 93, 94, 95, 96, 97] (by decide +kernel) (by decide +kernel)
set_option maxRecDepth 20000 in
theorem gX7_reasonAgainst_X6_usesAt : GoodIn wsX7_reasonAgainst (wsV RX7 164 RX6 yX6_usesAt wsX6_usesAt) := goodIn_app (goodIn_of _ (by decide +kernel)) ggX7_reasonAgainst_X6_usesAt
set_option maxRecDepth 20000 in
theorem ggX7_reasonAgainst_X3_nearest : GoodIn wsX7_reasonAgainst wsX3_nearest := goodIn_r _ [30, 31, 32, 33, 34, 35, 36, 37, 38, 39, 40, 41, 42, 107, 108, 109, 110] (by decide +kernel) (by decide +kernel)
set_option maxRecDepth 20000 in
theorem gX7_reasonAgainst_X3_nearest : GoodIn wsX7_reasonAgainst (wsV RX7 277 RX3 yX3_nearest wsX3_nearest) := goodIn_app (goodIn_of _ (by decide +kernel)) ggX7_reasonAgainst_X3_nearest
set_option maxRecDepth 20000 in
theorem ggX7_reasonAgainst_X7_capabilitiesAt : GoodIn wsX7_reasonAgainst wsX7_capabilitiesAt := goodIn_r _ [47, 48, 1, 49, 50, 51, 20, 52, 53, 23, 24, 25, 13, 7, 14, 15, 54, 55, 56, 57, 58, 59, 60, 61, 62, 63, 64, 65, 66, 67, 68, 69, 70, 71, 72, 73, 74, 75, 76, 77, 35, 78, 37, 38, 39, 40, 41, 42, 79, 80, 81, 82, 83, 84, 85, 86, 87, 88, 89, 98, 99, 100, 101, 102, 103, 104, 105, 106, 90, 91, 92, 93, 94, 95, 96, 97, 111, 112, 113, 114, 115] (by decide +kernel) (by decide +kernel)
set_option maxRecDepth 20000 in
theorem gX7_reasonAgainst_X7_capabilitiesAt : GoodIn wsX7_reasonAgainst (wsV RX7 170 RX7 yX7_capabilitiesAt wsX7_capabilitiesAt) := goodIn_app (goodIn_of _ (by decide +kernel)) ggX7_reasonAgainst_X7_capabilitiesAt
theorem dX7_reasonAgainst_0 : decode cX7_reasonAgainst 0 = .ok (.aload_n 0, 1) := by decide +kernel
theorem dX7_reasonAgainst_1 : decode cX7_reasonAgainst 1 = .ok (.getfield 26, 3) := by decide +kernel
theorem dX7_reasonAgainst_4 : decode cX7_reasonAgainst 4 = .ok (.iload_n 1, 1) := by decide +kernel
theorem dX7_reasonAgainst_5 : decode cX7_reasonAgainst 5 = .ok (.invokevirtual 158, 3) := by decide +kernel
theorem dX7_reasonAgainst_8 : decode cX7_reasonAgainst 8 = .ok (.ifCond .ne 5, 3) := by decide +kernel
theorem dX7_reasonAgainst_11 : decode cX7_reasonAgainst 11 = .ok (.iconst 1, 1) := by decide +kernel
theorem dX7_reasonAgainst_12 : decode cX7_reasonAgainst 12 = .ok (.ireturn, 1) := by decide +kernel
theorem dX7_reasonAgainst_13 : decode cX7_reasonAgainst 13 = .ok (.aload_n 0, 1) := by decide +kernel
theorem dX7_reasonAgainst_14 : decode cX7_reasonAgainst 14 = .ok (.getfield 26, 3) := by decide +kernel
theorem dX7_reasonAgainst_17 : decode cX7_reasonAgainst 17 = .ok (.iload_n 1, 1) := by decide +kernel
theorem dX7_reasonAgainst_18 : decode cX7_reasonAgainst 18 = .ok (.invokevirtual 164, 3) := by decide +kernel
theorem dX7_reasonAgainst_21 : decode cX7_reasonAgainst 21 = .ok (.ifCond .ne 5, 3) := by decide +kernel
theorem dX7_reasonAgainst_24 : decode cX7_reasonAgainst 24 = .ok (.iconst 2, 1) := by decide +kernel
theorem dX7_reasonAgainst_25 : decode cX7_reasonAgainst 25 = .ok (.ireturn, 1) := by decide +kernel
theorem dX7_reasonAgainst_26 : decode cX7_reasonAgainst 26 = .ok (.aload_n 0, 1) := by decide +kernel
theorem dX7_reasonAgainst_27 : decode cX7_reasonAgainst 27 = .ok (.getfield 19, 3) := by decide +kernel
theorem dX7_reasonAgainst_30 : decode cX7_reasonAgainst 30 = .ok (.iload_n 2, 1) := by decide +kernel
theorem dX7_reasonAgainst_31 : decode cX7_reasonAgainst 31 = .ok (.invokevirtual 277, 3) := by decide +kernel
theorem dX7_reasonAgainst_34 : decode cX7_reasonAgainst 34 = .ok (.iconst (-1), 1) := by decide +kernel
theorem dX7_reasonAgainst_35 : decode cX7_reasonAgainst 35 = .ok (.if_icmp .ne 5, 3) := by decide +kernel
theorem dX7_reasonAgainst_38 : decode cX7_reasonAgainst 38 = .ok (.iconst 3, 1) := by decide +kernel
theorem dX7_reasonAgainst_39 : decode cX7_reasonAgainst 39 = .ok (.ireturn, 1) := by decide +kernel
theorem dX7_reasonAgainst_40 : decode cX7_reasonAgainst 40 = .ok (.aload_n 0, 1) := by decide +kernel
theorem dX7_reasonAgainst_41 : decode cX7_reasonAgainst 41 = .ok (.iload_n 1, 1) := by decide +kernel
theorem dX7_reasonAgainst_42 : decode cX7_reasonAgainst 42 = .ok (.iload_n 2, 1) := by decide +kernel
theorem dX7_reasonAgainst_43 : decode cX7_reasonAgainst 43 = .ok (.invokevirtual 170, 3) := by decide +kernel
theorem dX7_reasonAgainst_46 : decode cX7_reasonAgainst 46 = .ok (.iconst 1, 1) := by decide +kernel
theorem dX7_reasonAgainst_47 : decode cX7_reasonAgainst 47 = .ok (.iand, 1) := by decide +kernel
theorem dX7_reasonAgainst_48 : decode cX7_reasonAgainst 48 = .ok (.ifCond .ne 7, 3) := by decide +kernel
theorem dX7_reasonAgainst_51 : decode cX7_reasonAgainst 51 = .ok (.iconst 4, 1) := by decide +kernel
theorem dX7_reasonAgainst_52 : decode cX7_reasonAgainst 52 = .ok (.goto 4, 3) := by decide +kernel
theorem dX7_reasonAgainst_55 : decode cX7_reasonAgainst 55 = .ok (.iconst 0, 1) := by decide +kernel
theorem dX7_reasonAgainst_56 : decode cX7_reasonAgainst 56 = .ok (.ireturn, 1) := by decide +kernel
set_option maxRecDepth 20000 in
theorem ggX7_give_X3_nearest : GoodIn wsX7_give wsX3_nearest := goodIn_r _ [8, 9, 10, 11, 12, 13, 14, 15, 16, 17, 18, 19, 20, 65, 66, 67, 68] (by decide +kernel) (by decide +kernel)
set_option maxRecDepth 20000 in
theorem gX7_give_X3_nearest : GoodIn wsX7_give (wsV RX7 277 RX3 yX3_nearest wsX3_nearest) := goodIn_app (goodIn_of _ (by decide +kernel)) ggX7_give_X3_nearest
set_option maxRecDepth 20000 in
theorem ggX7_give_X3_minutesAt : GoodIn wsX7_give wsX3_minutesAt := goodIn_r _ [24, 25, 26, 27, 28, 7, 29, 9, 65, 66, 67, 68] (by decide +kernel) (by decide +kernel)
set_option maxRecDepth 20000 in
theorem gX7_give_X3_minutesAt : GoodIn wsX7_give (wsV RX7 280 RX3 yX3_minutesAt wsX3_minutesAt) := goodIn_app (goodIn_of _ (by decide +kernel)) ggX7_give_X3_minutesAt
set_option maxRecDepth 20000 in
theorem ggX7_give_X3_boundAt : GoodIn wsX7_give wsX3_boundAt := goodIn_r _ [33, 34, 26, 27, 28, 7, 29, 9, 65, 66, 67, 68] (by decide +kernel) (by decide +kernel)
set_option maxRecDepth 20000 in
theorem gX7_give_X3_boundAt : GoodIn wsX7_give (wsV RX7 283 RX3 yX3_boundAt wsX3_boundAt) := goodIn_app (goodIn_of _ (by decide +kernel)) ggX7_give_X3_boundAt
set_option maxRecDepth 20000 in
theorem ggX7_give_X2_add : GoodIn wsX7_give wsX2_add := goodIn_r _ [40, 41, 42, 43, 44, 45, 46, 69, 70, 71, 72, 73, 74, 75, 76, 77, 78, 79, 80, 81, 82, 83, 84, 85] (by decide +kernel) (by decide +kernel)
set_option maxRecDepth 20000 in
theorem gX7_give_X2_add_u286X1 : GoodIn wsX7_give (va_wsU RX7 286 RX1 "SecretBroker$Leased" ⟨"SecretBroker$Credentials", "add", "(III)I"⟩ yX2_add wsX2_add) := goodIn_app (goodIn_of _ (by decide +kernel)) ggX7_give_X2_add
set_option maxRecDepth 20000 in
theorem ggX7_give_X1_describe : GoodIn wsX7_give wsX1_describe := goodIn_r _ [51, 52, 53, 54, 55, 56, 57, 39, 58, 41, 69, 70, 71, 72, 73, 74, 75, 76, 77, 78, 79, 80, 81, 82, 83, 84, 85] (by decide +kernel) (by decide +kernel)
set_option maxRecDepth 20000 in
theorem gX7_give_X1_describe : GoodIn wsX7_give (wsV RX7 287 RX1 yX1_describe wsX1_describe) := goodIn_app (goodIn_of _ (by decide +kernel)) ggX7_give_X1_describe
theorem dX7_give_0 : decode cX7_give 0 = .ok (.aload_n 0, 1) := by decide +kernel
theorem dX7_give_1 : decode cX7_give 1 = .ok (.getfield 19, 3) := by decide +kernel
theorem dX7_give_4 : decode cX7_give 4 = .ok (.iload_n 2, 1) := by decide +kernel
theorem dX7_give_5 : decode cX7_give 5 = .ok (.invokevirtual 277, 3) := by decide +kernel
theorem dX7_give_8 : decode cX7_give 8 = .ok (.istore_n 3, 1) := by decide +kernel
theorem dX7_give_9 : decode cX7_give 9 = .ok (.aload_n 0, 1) := by decide +kernel
theorem dX7_give_10 : decode cX7_give 10 = .ok (.getfield 44, 3) := by decide +kernel
theorem dX7_give_13 : decode cX7_give 13 = .ok (.aload_n 0, 1) := by decide +kernel
theorem dX7_give_14 : decode cX7_give 14 = .ok (.getfield 19, 3) := by decide +kernel
theorem dX7_give_17 : decode cX7_give 17 = .ok (.iload_n 3, 1) := by decide +kernel
theorem dX7_give_18 : decode cX7_give 18 = .ok (.invokevirtual 280, 3) := by decide +kernel
theorem dX7_give_21 : decode cX7_give 21 = .ok (.iadd, 1) := by decide +kernel
theorem dX7_give_22 : decode cX7_give 22 = .ok (.istore 4, 2) := by decide +kernel
theorem dX7_give_24 : decode cX7_give 24 = .ok (.aload_n 0, 1) := by decide +kernel
theorem dX7_give_25 : decode cX7_give 25 = .ok (.getfield 33, 3) := by decide +kernel
theorem dX7_give_28 : decode cX7_give 28 = .ok (.aload_n 0, 1) := by decide +kernel
theorem dX7_give_29 : decode cX7_give 29 = .ok (.getfield 44, 3) := by decide +kernel
theorem dX7_give_32 : decode cX7_give 32 = .ok (.iload 4, 2) := by decide +kernel
theorem dX7_give_34 : decode cX7_give 34 = .ok (.aload_n 0, 1) := by decide +kernel
theorem dX7_give_35 : decode cX7_give 35 = .ok (.getfield 19, 3) := by decide +kernel
theorem dX7_give_38 : decode cX7_give 38 = .ok (.iload_n 3, 1) := by decide +kernel
theorem dX7_give_39 : decode cX7_give 39 = .ok (.invokevirtual 283, 3) := by decide +kernel
theorem dX7_give_42 : decode cX7_give 42 = .ok (.invokevirtual 286, 3) := by decide +kernel
theorem dX7_give_45 : decode cX7_give 45 = .ok (.istore 5, 2) := by decide +kernel
theorem dX7_give_47 : decode cX7_give 47 = .ok (.aload_n 0, 1) := by decide +kernel
theorem dX7_give_48 : decode cX7_give 48 = .ok (.getfield 33, 3) := by decide +kernel
theorem dX7_give_51 : decode cX7_give 51 = .ok (.iload 5, 2) := by decide +kernel
theorem dX7_give_53 : decode cX7_give 53 = .ok (.iload_n 1, 1) := by decide +kernel
theorem dX7_give_54 : decode cX7_give 54 = .ok (.iload_n 2, 1) := by decide +kernel
theorem dX7_give_55 : decode cX7_give 55 = .ok (.invokevirtual 287, 3) := by decide +kernel
theorem dX7_give_58 : decode cX7_give 58 = .ok (.iload 5, 2) := by decide +kernel
theorem dX7_give_60 : decode cX7_give 60 = .ok (.ireturn, 1) := by decide +kernel
set_option maxRecDepth 20000 in
theorem ggX7_endToken_X2_end : GoodIn wsX7_endToken wsX2_end := goodIn_r _ [9, 10, 11, 12, 13, 14, 15, 8, 16, 17, 18, 19, 20, 21, 22, 23, 24, 81, 82, 83, 84, 85, 86, 87, 88, 89, 90, 91, 92, 93, 94, 95, 96, 97] (by decide +kernel) (by decide +kernel)
set_option maxRecDepth 20000 in
theorem gX7_endToken_X2_end_u289X6 : GoodIn wsX7_endToken (va_wsU RX7 289 RX6 "SecretBroker$Leased" ⟨"SecretBroker$Tokens", "end", "(I)I"⟩ yX2_end wsX2_end) := goodIn_app (goodIn_of _ (by decide +kernel)) ggX7_endToken_X2_end
set_option maxRecDepth 20000 in
theorem ggX7_endToken_X7_endWhatHungOnTokens : GoodIn wsX7_endToken wsX7_endWhatHungOnTokens := goodIn_r _ [29, 1, 30, 31, 32, 33, 34, 35, 36, 37, 38, 39, 40, 8, 41, 22, 42, 43, 44, 15, 16, 10, 17, 18, 19, 20, 21, 23, 45, 5, 6, 7, 9, 11, 12, 13, 14, 24, 46, 47, 48, 49, 50, 51, 52, 53, 54, 55, 56, 57, 58, 75, 76, 77, 78, 79, 80, 89, 90, 91, 92, 93, 94, 95, 96, 97, 81, 82, 83, 84, 85, 86, 87, 88] (by decide +kernel) (by decide +kernel)
set_option maxRecDepth 20000 in
theorem gX7_endToken_X7_endWhatHungOnTokens : GoodIn wsX7_endToken (wsV RX7 208 RX7 yX7_endWhatHungOnTokens wsX7_endWhatHungOnTokens) := goodIn_app (goodIn_of _ (by decide +kernel)) ggX7_endToken_X7_endWhatHungOnTokens
set_option maxRecDepth 20000 in
theorem ggX7_endToken_X0_write : GoodIn wsX7_endToken wsX0_write := goodIn_r _ [63, 64, 65, 66, 67, 68, 69, 70, 71, 72, 73, 74, 98, 99, 100, 101, 102] (by decide +kernel) (by decide +kernel)
set_option maxRecDepth 20000 in
theorem gX7_endToken_X0_write : GoodIn wsX7_endToken (wsV RX7 140 RX0 yX0_write wsX0_write) := goodIn_app (goodIn_of _ (by decide +kernel)) ggX7_endToken_X0_write
theorem dX7_endToken_0 : decode cX7_endToken 0 = .ok (.aload_n 0, 1) := by decide +kernel
theorem dX7_endToken_1 : decode cX7_endToken 1 = .ok (.getfield 26, 3) := by decide +kernel
theorem dX7_endToken_4 : decode cX7_endToken 4 = .ok (.iload_n 1, 1) := by decide +kernel
theorem dX7_endToken_5 : decode cX7_endToken 5 = .ok (.invokevirtual 289, 3) := by decide +kernel
theorem dX7_endToken_8 : decode cX7_endToken 8 = .ok (.istore_n 2, 1) := by decide +kernel
theorem dX7_endToken_9 : decode cX7_endToken 9 = .ok (.iload_n 2, 1) := by decide +kernel
theorem dX7_endToken_10 : decode cX7_endToken 10 = .ok (.aload_n 0, 1) := by decide +kernel
theorem dX7_endToken_11 : decode cX7_endToken 11 = .ok (.invokevirtual 208, 3) := by decide +kernel
theorem dX7_endToken_14 : decode cX7_endToken 14 = .ok (.iadd, 1) := by decide +kernel
theorem dX7_endToken_15 : decode cX7_endToken 15 = .ok (.istore_n 2, 1) := by decide +kernel
theorem dX7_endToken_16 : decode cX7_endToken 16 = .ok (.aload_n 0, 1) := by decide +kernel
theorem dX7_endToken_17 : decode cX7_endToken 17 = .ok (.getfield 40, 3) := by decide +kernel
theorem dX7_endToken_20 : decode cX7_endToken 20 = .ok (.iconst 4, 1) := by decide +kernel
theorem dX7_endToken_21 : decode cX7_endToken 21 = .ok (.iload_n 1, 1) := by decide +kernel
theorem dX7_endToken_22 : decode cX7_endToken 22 = .ok (.iload_n 2, 1) := by decide +kernel
theorem dX7_endToken_23 : decode cX7_endToken 23 = .ok (.aload_n 0, 1) := by decide +kernel
theorem dX7_endToken_24 : decode cX7_endToken 24 = .ok (.getfield 44, 3) := by decide +kernel
theorem dX7_endToken_27 : decode cX7_endToken 27 = .ok (.invokevirtual 140, 3) := by decide +kernel
theorem dX7_endToken_30 : decode cX7_endToken 30 = .ok (.iload_n 2, 1) := by decide +kernel
theorem dX7_endToken_31 : decode cX7_endToken 31 = .ok (.ireturn, 1) := by decide +kernel
set_option maxRecDepth 20000 in
theorem ggX7_endWhatHungOnTokens_X6_endBelowEnded : GoodIn wsX7_endWhatHungOnTokens wsX6_endBelowEnded := goodIn_r _ [7, 8, 9, 10, 11, 12, 13, 14, 15, 16, 17, 18, 19, 20, 21, 22, 23, 24, 25, 26, 27, 28, 29, 30, 31, 32, 33, 34, 35, 36, 37, 57, 58, 59, 60, 61, 62, 63, 64, 65, 66, 67, 68, 69, 70, 71, 72, 73] (by decide +kernel) (by decide +kernel)
set_option maxRecDepth 20000 in
theorem gX7_endWhatHungOnTokens_X6_endBelowEnded : GoodIn wsX7_endWhatHungOnTokens (wsV RX7 292 RX6 yX6_endBelowEnded wsX6_endBelowEnded) := goodIn_app (goodIn_of _ (by decide +kernel)) ggX7_endWhatHungOnTokens_X6_endBelowEnded
set_option maxRecDepth 20000 in
theorem ggX7_endWhatHungOnTokens_X1_endOfEnded : GoodIn wsX7_endWhatHungOnTokens wsX1_endOfEnded := goodIn_r _ [42, 43, 44, 45, 46, 12, 13, 14, 15, 47, 17, 18, 19, 20, 21, 22, 23, 24, 25, 26, 27, 48, 49, 50, 31, 32, 33, 34, 35, 36, 37, 66, 67, 68, 69, 70, 71, 72, 73, 57, 58, 59, 60, 61, 62, 63, 64, 65] (by decide +kernel) (by decide +kernel)
set_option maxRecDepth 20000 in
theorem gX7_endWhatHungOnTokens_X1_endOfEnded : GoodIn wsX7_endWhatHungOnTokens (wsV RX7 295 RX1 yX1_endOfEnded wsX1_endOfEnded) := goodIn_app (goodIn_of _ (by decide +kernel)) ggX7_endWhatHungOnTokens_X1_endOfEnded
theorem dX7_endWhatHungOnTokens_0 : decode cX7_endWhatHungOnTokens 0 = .ok (.aload_n 0, 1) := by decide +kernel
theorem dX7_endWhatHungOnTokens_1 : decode cX7_endWhatHungOnTokens 1 = .ok (.getfield 26, 3) := by decide +kernel
theorem dX7_endWhatHungOnTokens_4 : decode cX7_endWhatHungOnTokens 4 = .ok (.invokevirtual 292, 3) := by decide +kernel
theorem dX7_endWhatHungOnTokens_7 : decode cX7_endWhatHungOnTokens 7 = .ok (.istore_n 1, 1) := by decide +kernel
theorem dX7_endWhatHungOnTokens_8 : decode cX7_endWhatHungOnTokens 8 = .ok (.iload_n 1, 1) := by decide +kernel
theorem dX7_endWhatHungOnTokens_9 : decode cX7_endWhatHungOnTokens 9 = .ok (.aload_n 0, 1) := by decide +kernel
theorem dX7_endWhatHungOnTokens_10 : decode cX7_endWhatHungOnTokens 10 = .ok (.getfield 33, 3) := by decide +kernel
theorem dX7_endWhatHungOnTokens_13 : decode cX7_endWhatHungOnTokens 13 = .ok (.aload_n 0, 1) := by decide +kernel
theorem dX7_endWhatHungOnTokens_14 : decode cX7_endWhatHungOnTokens 14 = .ok (.getfield 26, 3) := by decide +kernel
theorem dX7_endWhatHungOnTokens_17 : decode cX7_endWhatHungOnTokens 17 = .ok (.invokevirtual 295, 3) := by decide +kernel
theorem dX7_endWhatHungOnTokens_20 : decode cX7_endWhatHungOnTokens 20 = .ok (.iadd, 1) := by decide +kernel
theorem dX7_endWhatHungOnTokens_21 : decode cX7_endWhatHungOnTokens 21 = .ok (.ireturn, 1) := by decide +kernel
theorem dJ9_max_7cf53_0 : decode cJ9_max_7cf53 0 = .ok (.iload_n 0, 1) := by decide +kernel
theorem dJ9_max_7cf53_1 : decode cJ9_max_7cf53 1 = .ok (.iload_n 1, 1) := by decide +kernel
theorem dJ9_max_7cf53_2 : decode cJ9_max_7cf53 2 = .ok (.if_icmp .lt 7, 3) := by decide +kernel
theorem dJ9_max_7cf53_5 : decode cJ9_max_7cf53 5 = .ok (.iload_n 0, 1) := by decide +kernel
theorem dJ9_max_7cf53_6 : decode cJ9_max_7cf53 6 = .ok (.goto 4, 3) := by decide +kernel
theorem dJ9_max_7cf53_9 : decode cJ9_max_7cf53 9 = .ok (.iload_n 1, 1) := by decide +kernel
theorem dJ9_max_7cf53_10 : decode cJ9_max_7cf53 10 = .ok (.ireturn, 1) := by decide +kernel
theorem dJ9_min_7cf53_0 : decode cJ9_min_7cf53 0 = .ok (.iload_n 0, 1) := by decide +kernel
theorem dJ9_min_7cf53_1 : decode cJ9_min_7cf53 1 = .ok (.iload_n 1, 1) := by decide +kernel
theorem dJ9_min_7cf53_2 : decode cJ9_min_7cf53 2 = .ok (.if_icmp .gt 7, 3) := by decide +kernel
theorem dJ9_min_7cf53_5 : decode cJ9_min_7cf53 5 = .ok (.iload_n 0, 1) := by decide +kernel
theorem dJ9_min_7cf53_6 : decode cJ9_min_7cf53 6 = .ok (.goto 4, 3) := by decide +kernel
theorem dJ9_min_7cf53_9 : decode cJ9_min_7cf53 9 = .ok (.iload_n 1, 1) := by decide +kernel
theorem dJ9_min_7cf53_10 : decode cJ9_min_7cf53 10 = .ok (.ireturn, 1) := by decide +kernel
