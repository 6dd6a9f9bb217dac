theorem inlX0 : ∀ w ∈ wsX00, w ∈ wsL_law := fun _ h => List.mem_append_left _ (List.mem_append_left _ (List.mem_append_left _ (List.mem_append_left _ (List.mem_append_right _ h))))
theorem inlX1 : ∀ w ∈ wsX10, w ∈ wsL_law := fun _ h => List.mem_append_left _ (List.mem_append_left _ (List.mem_append_left _ (List.mem_append_left _ (List.mem_append_left _ (List.mem_append_right _ h)))))
theorem inlX3 : ∀ w ∈ wsX30, w ∈ wsL_law := fun _ h => List.mem_append_left _ (List.mem_append_left _ (List.mem_append_left _ (List.mem_append_left _ (List.mem_append_left _ (List.mem_append_left _ (List.mem_append_left _ (List.mem_append_right _ h)))))))
theorem inlX5 : ∀ w ∈ wsX50, w ∈ wsL_law := fun _ h => List.mem_append_left _ (List.mem_append_left _ (List.mem_append_left _ (List.mem_append_left _ (List.mem_append_left _ (List.mem_append_left _ (List.mem_append_left _ (List.mem_append_left _ (List.mem_append_right _ h))))))))
theorem inlX6 : ∀ w ∈ wsX60, w ∈ wsL_law := fun _ h => List.mem_append_left _ (List.mem_append_left _ (List.mem_append_left _ (List.mem_append_left _ (List.mem_append_left _ (List.mem_append_left _ (List.mem_append_right _ h))))))
theorem inlX7 : ∀ w ∈ wsX70, w ∈ wsL_law := fun _ h => List.mem_append_left _ (List.mem_append_left _ (List.mem_append_left _ (List.mem_append_left _ (List.mem_append_left _ (List.mem_append_left _ (List.mem_append_left _ (List.mem_append_left _ (List.mem_append_left _ (List.mem_append_left _ (List.mem_append_right _ h))))))))))
theorem inlX8 : ∀ w ∈ wsX80, w ∈ wsL_law := fun _ h => List.mem_append_left _ (List.mem_append_left _ (List.mem_append_left _ (List.mem_append_left _ (List.mem_append_left _ (List.mem_append_left _ (List.mem_append_left _ (List.mem_append_left _ (List.mem_append_left _ (List.mem_append_right _ h)))))))))
set_option maxRecDepth 20000 in
theorem ggL_policy_X7_policy : GoodIn wsL_policy wsX7_policy := goodIn_ca (goodIn_r _ [6, 7, 8, 9, 10, 11, 12, 13, 14, 15, 16, 17, 18, 19, 20, 21, 22, 23, 24, 25, 26, 27, 28, 29, 30] (by decide +kernel) (by decide +kernel)) (goodIn_sub (fun _ h => List.mem_cons_of_mem _ (List.mem_append_right _ h)) (by decide +kernel))
set_option maxRecDepth 20000 in
theorem gL_policy_X7_policy : GoodIn wsL_policy (wsV RL 7 RX7 yX7_policy wsX7_policy) := goodIn_app (goodIn_of _ (by decide +kernel)) ggL_policy_X7_policy
theorem dL_policy_0 : decode cL_policy 0 = .ok (.aload_n 1, 1) := by decide +kernel
theorem dL_policy_1 : decode cL_policy 1 = .ok (.iconst 0, 1) := by decide +kernel
theorem dL_policy_2 : decode cL_policy 2 = .ok (.aload_n 0, 1) := by decide +kernel
theorem dL_policy_3 : decode cL_policy 3 = .ok (.invokevirtual 7, 3) := by decide +kernel
theorem dL_policy_6 : decode cL_policy 6 = .ok (.i2l, 1) := by decide +kernel
theorem dL_policy_7 : decode cL_policy 7 = .ok (.lastore, 1) := by decide +kernel
theorem dL_policy_8 : decode cL_policy 8 = .ok (.goto 6, 3) := by decide +kernel
theorem dL_policy_11 : decode cL_policy 11 = .ok (.astore_n 2, 1) := by decide +kernel
theorem dL_policy_12 : decode cL_policy 12 = .ok (.iconst 1, 1) := by decide +kernel
theorem dL_policy_13 : decode cL_policy 13 = .ok (.ireturn, 1) := by decide +kernel
theorem dL_policy_14 : decode cL_policy 14 = .ok (.iconst 0, 1) := by decide +kernel
theorem dL_policy_15 : decode cL_policy 15 = .ok (.ireturn, 1) := by decide +kernel
set_option maxRecDepth 20000 in
theorem ggL_allow_X7_allow : GoodIn wsL_allow wsX7_allow := goodIn_ca (goodIn_ca (goodIn_ca (goodIn_r _ [8, 9, 10, 11, 12, 13, 14, 15, 16, 7, 17, 18, 19, 20, 21, 22, 23, 24, 25, 26, 27, 28, 29, 30, 31, 32, 33, 34, 35, 36, 37, 38, 39, 40, 41, 42, 43, 44, 45, 46, 47, 48, 49, 50, 51, 52, 53, 54, 55, 56, 57, 58, 59, 60, 61, 62, 63, 64, 65, 66, 67, 68, 69, 70] (by decide +kernel) (by decide +kernel)) (goodIn_sub (fun _ h => List.mem_cons_of_mem _ (List.mem_append_left _ (List.mem_append_left _ (List.mem_append_right _ h)))) (by decide +kernel))) (goodIn_sub (fun _ h => List.mem_cons_of_mem _ (List.mem_append_left _ (List.mem_append_right _ h))) (by decide +kernel))) (goodIn_sub (fun _ h => List.mem_cons_of_mem _ (List.mem_append_right _ h)) (by decide +kernel))
set_option maxRecDepth 20000 in
theorem gL_allow_X7_allow : GoodIn wsL_allow (wsV RL 15 RX7 yX7_allow wsX7_allow) := goodIn_app (goodIn_of _ (by decide +kernel)) ggL_allow_X7_allow
theorem dL_allow_0 : decode cL_allow 0 = .ok (.aload 5, 2) := by decide +kernel
theorem dL_allow_2 : decode cL_allow 2 = .ok (.iconst 0, 1) := by decide +kernel
theorem dL_allow_3 : decode cL_allow 3 = .ok (.aload_n 0, 1) := by decide +kernel
theorem dL_allow_4 : decode cL_allow 4 = .ok (.iload_n 1, 1) := by decide +kernel
theorem dL_allow_5 : decode cL_allow 5 = .ok (.iload_n 2, 1) := by decide +kernel
theorem dL_allow_6 : decode cL_allow 6 = .ok (.iload_n 3, 1) := by decide +kernel
theorem dL_allow_7 : decode cL_allow 7 = .ok (.iload 4, 2) := by decide +kernel
theorem dL_allow_9 : decode cL_allow 9 = .ok (.invokevirtual 15, 3) := by decide +kernel
theorem dL_allow_12 : decode cL_allow 12 = .ok (.i2l, 1) := by decide +kernel
theorem dL_allow_13 : decode cL_allow 13 = .ok (.lastore, 1) := by decide +kernel
theorem dL_allow_14 : decode cL_allow 14 = .ok (.goto 15, 3) := by decide +kernel
theorem dL_allow_17 : decode cL_allow 17 = .ok (.astore 6, 2) := by decide +kernel
theorem dL_allow_19 : decode cL_allow 19 = .ok (.iconst 1, 1) := by decide +kernel
theorem dL_allow_20 : decode cL_allow 20 = .ok (.ireturn, 1) := by decide +kernel
theorem dL_allow_21 : decode cL_allow 21 = .ok (.astore 6, 2) := by decide +kernel
theorem dL_allow_23 : decode cL_allow 23 = .ok (.iconst 2, 1) := by decide +kernel
theorem dL_allow_24 : decode cL_allow 24 = .ok (.ireturn, 1) := by decide +kernel
theorem dL_allow_25 : decode cL_allow 25 = .ok (.astore 6, 2) := by decide +kernel
theorem dL_allow_27 : decode cL_allow 27 = .ok (.iconst 3, 1) := by decide +kernel
theorem dL_allow_28 : decode cL_allow 28 = .ok (.ireturn, 1) := by decide +kernel
theorem dL_allow_29 : decode cL_allow 29 = .ok (.iconst 0, 1) := by decide +kernel
theorem dL_allow_30 : decode cL_allow 30 = .ok (.ireturn, 1) := by decide +kernel
set_option maxRecDepth 20000 in
theorem ggL_clear_X7_clear : GoodIn wsL_clear wsX7_clear := goodIn_ca (goodIn_r _ [6, 7, 8, 9, 10, 5, 11, 12, 13, 14, 15, 16, 17, 18, 19, 20, 21, 22, 23, 24, 25, 26, 27, 28, 29, 30, 31, 32, 33, 34, 35, 36, 37, 38, 39, 40] (by decide +kernel) (by decide +kernel)) (goodIn_sub (fun _ h => List.mem_cons_of_mem _ (List.mem_append_right _ h)) (by decide +kernel))
set_option maxRecDepth 20000 in
theorem gL_clear_X7_clear : GoodIn wsL_clear (wsV RL 23 RX7 yX7_clear wsX7_clear) := goodIn_app (goodIn_of _ (by decide +kernel)) ggL_clear_X7_clear
theorem dL_clear_0 : decode cL_clear 0 = .ok (.aload_n 2, 1) := by decide +kernel
theorem dL_clear_1 : decode cL_clear 1 = .ok (.iconst 0, 1) := by decide +kernel
theorem dL_clear_2 : decode cL_clear 2 = .ok (.aload_n 0, 1) := by decide +kernel
theorem dL_clear_3 : decode cL_clear 3 = .ok (.iload_n 1, 1) := by decide +kernel
theorem dL_clear_4 : decode cL_clear 4 = .ok (.invokevirtual 23, 3) := by decide +kernel
theorem dL_clear_7 : decode cL_clear 7 = .ok (.i2l, 1) := by decide +kernel
theorem dL_clear_8 : decode cL_clear 8 = .ok (.lastore, 1) := by decide +kernel
theorem dL_clear_9 : decode cL_clear 9 = .ok (.goto 6, 3) := by decide +kernel
theorem dL_clear_12 : decode cL_clear 12 = .ok (.astore_n 3, 1) := by decide +kernel
theorem dL_clear_13 : decode cL_clear 13 = .ok (.iconst 1, 1) := by decide +kernel
theorem dL_clear_14 : decode cL_clear 14 = .ok (.ireturn, 1) := by decide +kernel
theorem dL_clear_15 : decode cL_clear 15 = .ok (.iconst 0, 1) := by decide +kernel
theorem dL_clear_16 : decode cL_clear 16 = .ok (.ireturn, 1) := by decide +kernel
set_option maxRecDepth 20000 in
theorem ggL_mount_X7_mount : GoodIn wsL_mount wsX7_mount := goodIn_ca (goodIn_ca (goodIn_r _ [7, 8, 9, 10, 11, 12, 6, 13, 14, 15, 16, 17, 18, 19, 20, 21, 22, 23, 24, 25, 26, 27, 28, 29, 30, 31, 32, 33, 34, 35, 36, 37, 38, 39, 40, 41, 42, 43, 44, 45, 46, 47, 48, 49, 50, 51, 52, 53, 54, 55, 56, 57] (by decide +kernel) (by decide +kernel)) (goodIn_sub (fun _ h => List.mem_cons_of_mem _ (List.mem_append_left _ (List.mem_append_right _ h))) (by decide +kernel))) (goodIn_sub (fun _ h => List.mem_cons_of_mem _ (List.mem_append_right _ h)) (by decide +kernel))
set_option maxRecDepth 20000 in
theorem gL_mount_X7_mount : GoodIn wsL_mount (wsV RL 27 RX7 yX7_mount wsX7_mount) := goodIn_app (goodIn_of _ (by decide +kernel)) ggL_mount_X7_mount
theorem dL_mount_0 : decode cL_mount 0 = .ok (.aload 4, 2) := by decide +kernel
theorem dL_mount_2 : decode cL_mount 2 = .ok (.iconst 0, 1) := by decide +kernel
theorem dL_mount_3 : decode cL_mount 3 = .ok (.aload_n 0, 1) := by decide +kernel
theorem dL_mount_4 : decode cL_mount 4 = .ok (.iload_n 1, 1) := by decide +kernel
theorem dL_mount_5 : decode cL_mount 5 = .ok (.iload_n 2, 1) := by decide +kernel
theorem dL_mount_6 : decode cL_mount 6 = .ok (.iload_n 3, 1) := by decide +kernel
theorem dL_mount_7 : decode cL_mount 7 = .ok (.invokevirtual 27, 3) := by decide +kernel
theorem dL_mount_10 : decode cL_mount 10 = .ok (.i2l, 1) := by decide +kernel
theorem dL_mount_11 : decode cL_mount 11 = .ok (.lastore, 1) := by decide +kernel
theorem dL_mount_12 : decode cL_mount 12 = .ok (.goto 11, 3) := by decide +kernel
theorem dL_mount_15 : decode cL_mount 15 = .ok (.astore 5, 2) := by decide +kernel
theorem dL_mount_17 : decode cL_mount 17 = .ok (.iconst 1, 1) := by decide +kernel
theorem dL_mount_18 : decode cL_mount 18 = .ok (.ireturn, 1) := by decide +kernel
theorem dL_mount_19 : decode cL_mount 19 = .ok (.astore 5, 2) := by decide +kernel
theorem dL_mount_21 : decode cL_mount 21 = .ok (.iconst 2, 1) := by decide +kernel
theorem dL_mount_22 : decode cL_mount 22 = .ok (.ireturn, 1) := by decide +kernel
theorem dL_mount_23 : decode cL_mount 23 = .ok (.iconst 0, 1) := by decide +kernel
theorem dL_mount_24 : decode cL_mount 24 = .ok (.ireturn, 1) := by decide +kernel
set_option maxRecDepth 20000 in
theorem ggL_create_X7_create : GoodIn wsL_create wsX7_create := goodIn_ca (goodIn_ca (goodIn_ca (goodIn_r _ [8, 9, 10, 11, 12, 13, 14, 15, 16, 17, 18, 7, 19, 20, 21, 22, 23, 24, 25, 26, 27, 28, 29, 30, 31, 32, 33, 34, 35, 36, 37, 38, 39, 40, 41, 42, 43, 44, 45, 46, 47, 48, 49, 50, 51, 52, 53, 54, 55, 56, 57, 58, 59, 60, 61, 62, 63, 64, 65, 66, 67, 68, 69, 70, 71, 72, 73, 74, 75, 76, 77, 78, 79, 80, 81, 82, 83, 84, 85, 86, 87, 88, 89, 90, 91, 92, 93, 94, 95, 96, 97, 98, 99, 100, 101, 102, 103, 104, 105, 106, 107, 108, 109, 110, 111, 112, 113, 114, 115, 116, 117, 118, 119, 120, 121, 122, 123, 124, 125, 126, 127, 128, 129, 130, 131, 132, 133, 134, 135, 136, 137, 138, 139, 140] (by decide +kernel) (by decide +kernel)) (goodIn_sub (fun _ h => List.mem_cons_of_mem _ (List.mem_append_left _ (List.mem_append_left _ (List.mem_append_right _ h)))) (by decide +kernel))) (goodIn_sub (fun _ h => List.mem_cons_of_mem _ (List.mem_append_left _ (List.mem_append_right _ h))) (by decide +kernel))) (goodIn_sub (fun _ h => List.mem_cons_of_mem _ (List.mem_append_right _ h)) (by decide +kernel))
set_option maxRecDepth 20000 in
theorem gL_create_X7_create : GoodIn wsL_create (wsV RL 31 RX7 yX7_create wsX7_create) := goodIn_app (goodIn_of _ (by decide +kernel)) ggL_create_X7_create
theorem dL_create_0 : decode cL_create 0 = .ok (.aload 6, 2) := by decide +kernel
theorem dL_create_2 : decode cL_create 2 = .ok (.iconst 0, 1) := by decide +kernel
theorem dL_create_3 : decode cL_create 3 = .ok (.aload_n 0, 1) := by decide +kernel
theorem dL_create_4 : decode cL_create 4 = .ok (.iload_n 1, 1) := by decide +kernel
theorem dL_create_5 : decode cL_create 5 = .ok (.iload_n 2, 1) := by decide +kernel
theorem dL_create_6 : decode cL_create 6 = .ok (.iload_n 3, 1) := by decide +kernel
theorem dL_create_7 : decode cL_create 7 = .ok (.iload 4, 2) := by decide +kernel
theorem dL_create_9 : decode cL_create 9 = .ok (.iload 5, 2) := by decide +kernel
theorem dL_create_11 : decode cL_create 11 = .ok (.invokevirtual 31, 3) := by decide +kernel
theorem dL_create_14 : decode cL_create 14 = .ok (.i2l, 1) := by decide +kernel
theorem dL_create_15 : decode cL_create 15 = .ok (.lastore, 1) := by decide +kernel
theorem dL_create_16 : decode cL_create 16 = .ok (.goto 15, 3) := by decide +kernel
theorem dL_create_19 : decode cL_create 19 = .ok (.astore 7, 2) := by decide +kernel
theorem dL_create_21 : decode cL_create 21 = .ok (.iconst 1, 1) := by decide +kernel
theorem dL_create_22 : decode cL_create 22 = .ok (.ireturn, 1) := by decide +kernel
theorem dL_create_23 : decode cL_create 23 = .ok (.astore 7, 2) := by decide +kernel
theorem dL_create_25 : decode cL_create 25 = .ok (.iconst 2, 1) := by decide +kernel
theorem dL_create_26 : decode cL_create 26 = .ok (.ireturn, 1) := by decide +kernel
theorem dL_create_27 : decode cL_create 27 = .ok (.astore 7, 2) := by decide +kernel
theorem dL_create_29 : decode cL_create 29 = .ok (.iconst 3, 1) := by decide +kernel
theorem dL_create_30 : decode cL_create 30 = .ok (.ireturn, 1) := by decide +kernel
theorem dL_create_31 : decode cL_create 31 = .ok (.iconst 0, 1) := by decide +kernel
theorem dL_create_32 : decode cL_create 32 = .ok (.ireturn, 1) := by decide +kernel
set_option maxRecDepth 20000 in
theorem ggL_renew_X7_renew : GoodIn wsL_renew wsX7_renew := goodIn_ca (goodIn_ca (goodIn_ca (goodIn_r _ [8, 9, 10, 11, 12, 13, 14, 7, 15, 16, 17, 18, 19, 20, 21, 22, 23, 24, 25, 26, 27, 28, 29, 30, 31, 32, 33, 34, 35, 36, 37, 38, 39, 40, 41, 42, 43, 44, 45, 46, 47, 48, 49, 50, 51, 52, 53, 54, 55, 56, 57, 58, 59, 60, 61, 62, 63, 64, 65, 66, 67, 68, 69, 70, 71, 72, 73, 74, 75, 76, 77, 78, 79, 80, 81, 82, 83, 84, 85, 86, 87, 88, 89, 90, 91, 92, 93, 94, 95, 96, 97, 98, 99, 100, 101, 102, 103, 104, 105, 106, 107, 108, 109, 110, 111, 112, 113] (by decide +kernel) (by decide +kernel)) (goodIn_sub (fun _ h => List.mem_cons_of_mem _ (List.mem_append_left _ (List.mem_append_left _ (List.mem_append_right _ h)))) (by decide +kernel))) (goodIn_sub (fun _ h => List.mem_cons_of_mem _ (List.mem_append_left _ (List.mem_append_right _ h))) (by decide +kernel))) (goodIn_sub (fun _ h => List.mem_cons_of_mem _ (List.mem_append_right _ h)) (by decide +kernel))
set_option maxRecDepth 20000 in
theorem gL_renew_X7_renew : GoodIn wsL_renew (wsV RL 35 RX7 yX7_renew wsX7_renew) := goodIn_app (goodIn_of _ (by decide +kernel)) ggL_renew_X7_renew
theorem dL_renew_0 : decode cL_renew 0 = .ok (.aload_n 3, 1) := by decide +kernel
theorem dL_renew_1 : decode cL_renew 1 = .ok (.iconst 0, 1) := by decide +kernel
theorem dL_renew_2 : decode cL_renew 2 = .ok (.aload_n 0, 1) := by decide +kernel
theorem dL_renew_3 : decode cL_renew 3 = .ok (.iload_n 1, 1) := by decide +kernel
theorem dL_renew_4 : decode cL_renew 4 = .ok (.iload_n 2, 1) := by decide +kernel
theorem dL_renew_5 : decode cL_renew 5 = .ok (.invokevirtual 35, 3) := by decide +kernel
theorem dL_renew_8 : decode cL_renew 8 = .ok (.i2l, 1) := by decide +kernel
theorem dL_renew_9 : decode cL_renew 9 = .ok (.lastore, 1) := by decide +kernel
theorem dL_renew_10 : decode cL_renew 10 = .ok (.goto 15, 3) := by decide +kernel
theorem dL_renew_13 : decode cL_renew 13 = .ok (.astore 4, 2) := by decide +kernel
theorem dL_renew_15 : decode cL_renew 15 = .ok (.iconst 1, 1) := by decide +kernel
theorem dL_renew_16 : decode cL_renew 16 = .ok (.ireturn, 1) := by decide +kernel
theorem dL_renew_17 : decode cL_renew 17 = .ok (.astore 4, 2) := by decide +kernel
theorem dL_renew_19 : decode cL_renew 19 = .ok (.iconst 2, 1) := by decide +kernel
theorem dL_renew_20 : decode cL_renew 20 = .ok (.ireturn, 1) := by decide +kernel
theorem dL_renew_21 : decode cL_renew 21 = .ok (.astore 4, 2) := by decide +kernel
theorem dL_renew_23 : decode cL_renew 23 = .ok (.iconst 3, 1) := by decide +kernel
theorem dL_renew_24 : decode cL_renew 24 = .ok (.ireturn, 1) := by decide +kernel
theorem dL_renew_25 : decode cL_renew 25 = .ok (.iconst 0, 1) := by decide +kernel
theorem dL_renew_26 : decode cL_renew 26 = .ok (.ireturn, 1) := by decide +kernel
set_option maxRecDepth 20000 in
theorem ggL_revoke_X7_revoke : GoodIn wsL_revoke wsX7_revoke := goodIn_ca (goodIn_ca (goodIn_r _ [7, 8, 9, 10, 6, 11, 12, 13, 14, 15, 16, 17, 18, 19, 20, 21, 22, 23, 24, 25, 26, 27, 28, 29, 30, 31, 32, 33, 34, 35, 36, 37, 38, 39, 40, 41, 42, 43, 44, 45, 46, 47, 48, 49, 50, 51, 52, 53, 54, 55, 56, 57, 58, 59, 60, 61, 62, 63, 64, 65, 66, 67, 68, 69, 70, 71, 72, 73, 74, 75, 76, 77, 78, 79, 80, 81, 82, 83, 84, 85, 86, 87, 88, 89, 90, 91, 92, 93, 94, 95, 96, 97, 98, 99, 100, 101, 102, 103, 104, 105, 106, 107, 108, 109, 110, 111, 112, 113, 114, 115, 116, 117, 118, 119, 120, 121, 122, 123, 124, 125, 126, 127, 128, 129, 130, 131, 132] (by decide +kernel) (by decide +kernel)) (goodIn_sub (fun _ h => List.mem_cons_of_mem _ (List.mem_append_left _ (List.mem_append_right _ h))) (by decide +kernel))) (goodIn_sub (fun _ h => List.mem_cons_of_mem _ (List.mem_append_right _ h)) (by decide +kernel))
set_option maxRecDepth 20000 in
theorem gL_revoke_X7_revoke : GoodIn wsL_revoke (wsV RL 39 RX7 yX7_revoke wsX7_revoke) := goodIn_app (goodIn_of _ (by decide +kernel)) ggL_revoke_X7_revoke
theorem dL_revoke_0 : decode cL_revoke 0 = .ok (.aload_n 2, 1) := by decide +kernel
theorem dL_revoke_1 : decode cL_revoke 1 = .ok (.iconst 0, 1) := by decide +kernel
theorem dL_revoke_2 : decode cL_revoke 2 = .ok (.aload_n 0, 1) := by decide +kernel
theorem dL_revoke_3 : decode cL_revoke 3 = .ok (.iload_n 1, 1) := by decide +kernel
theorem dL_revoke_4 : decode cL_revoke 4 = .ok (.invokevirtual 39, 3) := by decide +kernel
theorem dL_revoke_7 : decode cL_revoke 7 = .ok (.i2l, 1) := by decide +kernel
theorem dL_revoke_8 : decode cL_revoke 8 = .ok (.lastore, 1) := by decide +kernel
theorem dL_revoke_9 : decode cL_revoke 9 = .ok (.goto 9, 3) := by decide +kernel
theorem dL_revoke_12 : decode cL_revoke 12 = .ok (.astore_n 3, 1) := by decide +kernel
theorem dL_revoke_13 : decode cL_revoke 13 = .ok (.iconst 1, 1) := by decide +kernel
theorem dL_revoke_14 : decode cL_revoke 14 = .ok (.ireturn, 1) := by decide +kernel
theorem dL_revoke_15 : decode cL_revoke 15 = .ok (.astore_n 3, 1) := by decide +kernel
theorem dL_revoke_16 : decode cL_revoke 16 = .ok (.iconst 2, 1) := by decide +kernel
theorem dL_revoke_17 : decode cL_revoke 17 = .ok (.ireturn, 1) := by decide +kernel
theorem dL_revoke_18 : decode cL_revoke 18 = .ok (.iconst 0, 1) := by decide +kernel
theorem dL_revoke_19 : decode cL_revoke 19 = .ok (.ireturn, 1) := by decide +kernel
set_option maxRecDepth 20000 in
theorem ggL_revokeAlone_X7_revokeAlone : GoodIn wsL_revokeAlone wsX7_revokeAlone := goodIn_ca (goodIn_ca (goodIn_r _ [7, 8, 9, 10, 11, 6, 12, 13, 14, 15, 16, 17, 18, 19, 20, 21, 22, 23, 24, 25, 26, 27, 28, 29, 30, 31, 32, 33, 34, 35, 36, 37, 38, 39, 40, 41, 42, 43, 44, 45, 46, 47, 48, 49, 50, 51, 52, 53, 54, 55, 56, 57, 58, 59, 60, 61, 62, 63, 64, 65, 66, 67, 68, 69, 70, 71, 72, 73, 74, 75, 76, 77, 78, 79, 80, 81, 82, 83, 84, 85, 86, 87, 88, 89, 90, 91, 92, 93, 94, 95, 96, 97, 98, 99, 100, 101, 102, 103, 104, 105, 106, 107, 108, 109, 110, 111, 112, 113, 114, 115, 116, 117, 118, 119, 120, 121, 122, 123, 124, 125, 126, 127, 128, 129, 130, 131, 132, 133, 134, 135, 136] (by decide +kernel) (by decide +kernel)) (goodIn_sub (fun _ h => List.mem_cons_of_mem _ (List.mem_append_left _ (List.mem_append_right _ h))) (by decide +kernel))) (goodIn_sub (fun _ h => List.mem_cons_of_mem _ (List.mem_append_right _ h)) (by decide +kernel))
set_option maxRecDepth 20000 in
theorem gL_revokeAlone_X7_revokeAlone : GoodIn wsL_revokeAlone (wsV RL 42 RX7 yX7_revokeAlone wsX7_revokeAlone) := goodIn_app (goodIn_of _ (by decide +kernel)) ggL_revokeAlone_X7_revokeAlone
theorem dL_revokeAlone_0 : decode cL_revokeAlone 0 = .ok (.aload_n 2, 1) := by decide +kernel
theorem dL_revokeAlone_1 : decode cL_revokeAlone 1 = .ok (.iconst 0, 1) := by decide +kernel
theorem dL_revokeAlone_2 : decode cL_revokeAlone 2 = .ok (.aload_n 0, 1) := by decide +kernel
theorem dL_revokeAlone_3 : decode cL_revokeAlone 3 = .ok (.iload_n 1, 1) := by decide +kernel
theorem dL_revokeAlone_4 : decode cL_revokeAlone 4 = .ok (.invokevirtual 42, 3) := by decide +kernel
theorem dL_revokeAlone_7 : decode cL_revokeAlone 7 = .ok (.i2l, 1) := by decide +kernel
theorem dL_revokeAlone_8 : decode cL_revokeAlone 8 = .ok (.lastore, 1) := by decide +kernel
theorem dL_revokeAlone_9 : decode cL_revokeAlone 9 = .ok (.goto 9, 3) := by decide +kernel
theorem dL_revokeAlone_12 : decode cL_revokeAlone 12 = .ok (.astore_n 3, 1) := by decide +kernel
theorem dL_revokeAlone_13 : decode cL_revokeAlone 13 = .ok (.iconst 1, 1) := by decide +kernel
theorem dL_revokeAlone_14 : decode cL_revokeAlone 14 = .ok (.ireturn, 1) := by decide +kernel
theorem dL_revokeAlone_15 : decode cL_revokeAlone 15 = .ok (.astore_n 3, 1) := by decide +kernel
theorem dL_revokeAlone_16 : decode cL_revokeAlone 16 = .ok (.iconst 2, 1) := by decide +kernel
theorem dL_revokeAlone_17 : decode cL_revokeAlone 17 = .ok (.ireturn, 1) := by decide +kernel
theorem dL_revokeAlone_18 : decode cL_revokeAlone 18 = .ok (.iconst 0, 1) := by decide +kernel
theorem dL_revokeAlone_19 : decode cL_revokeAlone 19 = .ok (.ireturn, 1) := by decide +kernel
set_option maxRecDepth 20000 in
theorem ggL_isAlive_X7_isAlive : GoodIn wsL_isAlive wsX7_isAlive := goodIn_ca (goodIn_r _ [6, 7, 8, 9, 10, 5, 11, 12, 13, 14, 15, 16, 17, 18, 19, 20, 21, 22, 23, 24, 25, 26, 27, 28, 29, 30, 31, 32, 33, 34, 35, 36, 37, 38, 39, 40, 41, 42, 43, 44, 45, 46, 47, 48, 49, 50, 51, 52, 53] (by decide +kernel) (by decide +kernel)) (goodIn_sub (fun _ h => List.mem_cons_of_mem _ (List.mem_append_right _ h)) (by decide +kernel))
set_option maxRecDepth 20000 in
theorem gL_isAlive_X7_isAlive : GoodIn wsL_isAlive (wsV RL 45 RX7 yX7_isAlive wsX7_isAlive) := goodIn_app (goodIn_of _ (by decide +kernel)) ggL_isAlive_X7_isAlive
theorem dL_isAlive_0 : decode cL_isAlive 0 = .ok (.aload_n 2, 1) := by decide +kernel
theorem dL_isAlive_1 : decode cL_isAlive 1 = .ok (.iconst 0, 1) := by decide +kernel
theorem dL_isAlive_2 : decode cL_isAlive 2 = .ok (.aload_n 0, 1) := by decide +kernel
theorem dL_isAlive_3 : decode cL_isAlive 3 = .ok (.iload_n 1, 1) := by decide +kernel
theorem dL_isAlive_4 : decode cL_isAlive 4 = .ok (.invokevirtual 45, 3) := by decide +kernel
theorem dL_isAlive_7 : decode cL_isAlive 7 = .ok (.ifCond .eq 7, 3) := by decide +kernel
theorem dL_isAlive_10 : decode cL_isAlive 10 = .ok (.lconst 1, 1) := by decide +kernel
theorem dL_isAlive_11 : decode cL_isAlive 11 = .ok (.goto 4, 3) := by decide +kernel
theorem dL_isAlive_14 : decode cL_isAlive 14 = .ok (.lconst 0, 1) := by decide +kernel
theorem dL_isAlive_15 : decode cL_isAlive 15 = .ok (.lastore, 1) := by decide +kernel
theorem dL_isAlive_16 : decode cL_isAlive 16 = .ok (.goto 6, 3) := by decide +kernel
theorem dL_isAlive_19 : decode cL_isAlive 19 = .ok (.astore_n 3, 1) := by decide +kernel
theorem dL_isAlive_20 : decode cL_isAlive 20 = .ok (.iconst 1, 1) := by decide +kernel
theorem dL_isAlive_21 : decode cL_isAlive 21 = .ok (.ireturn, 1) := by decide +kernel
theorem dL_isAlive_22 : decode cL_isAlive 22 = .ok (.iconst 0, 1) := by decide +kernel
theorem dL_isAlive_23 : decode cL_isAlive 23 = .ok (.ireturn, 1) := by decide +kernel
set_option maxRecDepth 20000 in
theorem ggL_parentOf_X7_parentOf : GoodIn wsL_parentOf wsX7_parentOf := goodIn_ca (goodIn_r _ [6, 7, 8, 9, 10, 5, 11, 12, 13, 14, 15, 16, 17, 18, 19, 20, 21, 22, 23, 24, 25, 26, 27, 28, 29, 30, 31, 32, 33, 34, 35, 36, 37, 38, 39, 40, 41, 42, 43, 44, 45, 46, 47, 48, 49, 50] (by decide +kernel) (by decide +kernel)) (goodIn_sub (fun _ h => List.mem_cons_of_mem _ (List.mem_append_right _ h)) (by decide +kernel))
set_option maxRecDepth 20000 in
theorem gL_parentOf_X7_parentOf : GoodIn wsL_parentOf (wsV RL 49 RX7 yX7_parentOf wsX7_parentOf) := goodIn_app (goodIn_of _ (by decide +kernel)) ggL_parentOf_X7_parentOf
theorem dL_parentOf_0 : decode cL_parentOf 0 = .ok (.aload_n 2, 1) := by decide +kernel
theorem dL_parentOf_1 : decode cL_parentOf 1 = .ok (.iconst 0, 1) := by decide +kernel
theorem dL_parentOf_2 : decode cL_parentOf 2 = .ok (.aload_n 0, 1) := by decide +kernel
theorem dL_parentOf_3 : decode cL_parentOf 3 = .ok (.iload_n 1, 1) := by decide +kernel
theorem dL_parentOf_4 : decode cL_parentOf 4 = .ok (.invokevirtual 49, 3) := by decide +kernel
theorem dL_parentOf_7 : decode cL_parentOf 7 = .ok (.i2l, 1) := by decide +kernel
theorem dL_parentOf_8 : decode cL_parentOf 8 = .ok (.lastore, 1) := by decide +kernel
theorem dL_parentOf_9 : decode cL_parentOf 9 = .ok (.goto 6, 3) := by decide +kernel
theorem dL_parentOf_12 : decode cL_parentOf 12 = .ok (.astore_n 3, 1) := by decide +kernel
theorem dL_parentOf_13 : decode cL_parentOf 13 = .ok (.iconst 1, 1) := by decide +kernel
theorem dL_parentOf_14 : decode cL_parentOf 14 = .ok (.ireturn, 1) := by decide +kernel
theorem dL_parentOf_15 : decode cL_parentOf 15 = .ok (.iconst 0, 1) := by decide +kernel
theorem dL_parentOf_16 : decode cL_parentOf 16 = .ok (.ireturn, 1) := by decide +kernel
set_option maxRecDepth 20000 in
theorem ggL_endOf_X7_endOf : GoodIn wsL_endOf wsX7_endOf := goodIn_ca (goodIn_r _ [6, 7, 8, 9, 10, 5, 11, 12, 13, 14, 15, 16, 17, 18, 19, 20, 21, 22, 23, 24, 25, 26, 27, 28, 29, 30, 31, 32, 33, 34, 35, 36, 37, 38, 39, 40, 41, 42, 43, 44, 45, 46, 47, 48, 49, 50, 51, 52, 53] (by decide +kernel) (by decide +kernel)) (goodIn_sub (fun _ h => List.mem_cons_of_mem _ (List.mem_append_right _ h)) (by decide +kernel))
set_option maxRecDepth 20000 in
theorem gL_endOf_X7_endOf : GoodIn wsL_endOf (wsV RL 52 RX7 yX7_endOf wsX7_endOf) := goodIn_app (goodIn_of _ (by decide +kernel)) ggL_endOf_X7_endOf
theorem dL_endOf_0 : decode cL_endOf 0 = .ok (.aload_n 2, 1) := by decide +kernel
theorem dL_endOf_1 : decode cL_endOf 1 = .ok (.iconst 0, 1) := by decide +kernel
theorem dL_endOf_2 : decode cL_endOf 2 = .ok (.aload_n 0, 1) := by decide +kernel
theorem dL_endOf_3 : decode cL_endOf 3 = .ok (.iload_n 1, 1) := by decide +kernel
theorem dL_endOf_4 : decode cL_endOf 4 = .ok (.invokevirtual 52, 3) := by decide +kernel
theorem dL_endOf_7 : decode cL_endOf 7 = .ok (.i2l, 1) := by decide +kernel
theorem dL_endOf_8 : decode cL_endOf 8 = .ok (.lastore, 1) := by decide +kernel
theorem dL_endOf_9 : decode cL_endOf 9 = .ok (.goto 6, 3) := by decide +kernel
theorem dL_endOf_12 : decode cL_endOf 12 = .ok (.astore_n 3, 1) := by decide +kernel
theorem dL_endOf_13 : decode cL_endOf 13 = .ok (.iconst 1, 1) := by decide +kernel
theorem dL_endOf_14 : decode cL_endOf 14 = .ok (.ireturn, 1) := by decide +kernel
theorem dL_endOf_15 : decode cL_endOf 15 = .ok (.iconst 0, 1) := by decide +kernel
theorem dL_endOf_16 : decode cL_endOf 16 = .ok (.ireturn, 1) := by decide +kernel
set_option maxRecDepth 20000 in
theorem ggL_usesLeft_X7_usesLeft : GoodIn wsL_usesLeft wsX7_usesLeft := goodIn_ca (goodIn_r _ [6, 7, 8, 9, 10, 5, 11, 12, 13, 14, 15, 16, 17, 18, 19, 20, 21, 22, 23, 24, 25, 26, 27, 28, 29, 30, 31, 32, 33, 34, 35, 36, 37, 38, 39, 40, 41, 42, 43, 44, 45, 46, 47, 48, 49, 50] (by decide +kernel) (by decide +kernel)) (goodIn_sub (fun _ h => List.mem_cons_of_mem _ (List.mem_append_right _ h)) (by decide +kernel))
set_option maxRecDepth 20000 in
theorem gL_usesLeft_X7_usesLeft : GoodIn wsL_usesLeft (wsV RL 55 RX7 yX7_usesLeft wsX7_usesLeft) := goodIn_app (goodIn_of _ (by decide +kernel)) ggL_usesLeft_X7_usesLeft
theorem dL_usesLeft_0 : decode cL_usesLeft 0 = .ok (.aload_n 2, 1) := by decide +kernel
theorem dL_usesLeft_1 : decode cL_usesLeft 1 = .ok (.iconst 0, 1) := by decide +kernel
theorem dL_usesLeft_2 : decode cL_usesLeft 2 = .ok (.aload_n 0, 1) := by decide +kernel
theorem dL_usesLeft_3 : decode cL_usesLeft 3 = .ok (.iload_n 1, 1) := by decide +kernel
theorem dL_usesLeft_4 : decode cL_usesLeft 4 = .ok (.invokevirtual 55, 3) := by decide +kernel
theorem dL_usesLeft_7 : decode cL_usesLeft 7 = .ok (.i2l, 1) := by decide +kernel
theorem dL_usesLeft_8 : decode cL_usesLeft 8 = .ok (.lastore, 1) := by decide +kernel
theorem dL_usesLeft_9 : decode cL_usesLeft 9 = .ok (.goto 6, 3) := by decide +kernel
theorem dL_usesLeft_12 : decode cL_usesLeft 12 = .ok (.astore_n 3, 1) := by decide +kernel
theorem dL_usesLeft_13 : decode cL_usesLeft 13 = .ok (.iconst 1, 1) := by decide +kernel
theorem dL_usesLeft_14 : decode cL_usesLeft 14 = .ok (.ireturn, 1) := by decide +kernel
theorem dL_usesLeft_15 : decode cL_usesLeft 15 = .ok (.iconst 0, 1) := by decide +kernel
theorem dL_usesLeft_16 : decode cL_usesLeft 16 = .ok (.ireturn, 1) := by decide +kernel
set_option maxRecDepth 20000 in
theorem ggL_below_X7_below : GoodIn wsL_below wsX7_below := goodIn_ca (goodIn_r _ [6, 7, 8, 9, 10, 5, 11, 12, 13, 14, 15, 16, 17, 18, 19, 20, 21, 22, 23, 24, 25, 26, 27, 28, 29, 30, 31, 32, 33, 34, 35, 36, 37, 38, 39, 40, 41, 42, 43, 44, 45, 46, 47, 48, 49, 50, 51, 52, 53, 54, 55, 56, 57, 58, 59, 60, 61, 62, 63, 64, 65, 66, 67, 68, 69, 70, 71, 72, 73] (by decide +kernel) (by decide +kernel)) (goodIn_sub (fun _ h => List.mem_cons_of_mem _ (List.mem_append_right _ h)) (by decide +kernel))
set_option maxRecDepth 20000 in
theorem gL_below_X7_below : GoodIn wsL_below (wsV RL 58 RX7 yX7_below wsX7_below) := goodIn_app (goodIn_of _ (by decide +kernel)) ggL_below_X7_below
theorem dL_below_0 : decode cL_below 0 = .ok (.aload_n 2, 1) := by decide +kernel
theorem dL_below_1 : decode cL_below 1 = .ok (.iconst 0, 1) := by decide +kernel
theorem dL_below_2 : decode cL_below 2 = .ok (.aload_n 0, 1) := by decide +kernel
theorem dL_below_3 : decode cL_below 3 = .ok (.iload_n 1, 1) := by decide +kernel
theorem dL_below_4 : decode cL_below 4 = .ok (.invokevirtual 58, 3) := by decide +kernel
theorem dL_below_7 : decode cL_below 7 = .ok (.i2l, 1) := by decide +kernel
theorem dL_below_8 : decode cL_below 8 = .ok (.lastore, 1) := by decide +kernel
theorem dL_below_9 : decode cL_below 9 = .ok (.goto 6, 3) := by decide +kernel
theorem dL_below_12 : decode cL_below 12 = .ok (.astore_n 3, 1) := by decide +kernel
theorem dL_below_13 : decode cL_below 13 = .ok (.iconst 1, 1) := by decide +kernel
theorem dL_below_14 : decode cL_below 14 = .ok (.ireturn, 1) := by decide +kernel
theorem dL_below_15 : decode cL_below 15 = .ok (.iconst 0, 1) := by decide +kernel
theorem dL_below_16 : decode cL_below 16 = .ok (.ireturn, 1) := by decide +kernel
set_option maxRecDepth 20000 in
theorem ggL_capabilities_X7_capabilities : GoodIn wsL_capabilities wsX7_capabilities := goodIn_ca (goodIn_ca (goodIn_r _ [7, 8, 9, 10, 6, 11, 12, 13, 14, 15, 16, 17, 18, 19, 20, 21, 22, 23, 24, 25, 26, 27, 28, 29, 30, 31, 32, 33, 34, 35, 36, 37, 38, 39, 40, 41, 42, 43, 44, 45, 46, 47, 48, 49, 50, 51, 52, 53, 54, 55, 56, 57, 58, 59, 60, 61, 62, 63, 64, 65, 66, 67, 68, 69, 70, 71, 72, 73, 74, 75, 76, 77, 78, 79, 80, 81, 82, 83, 84, 85, 86, 87, 88, 89, 90, 91, 92, 93, 94, 95, 96, 97, 98, 99, 100, 101, 102, 103, 104, 105, 106, 107, 108, 109, 110] (by decide +kernel) (by decide +kernel)) (goodIn_sub (fun _ h => List.mem_cons_of_mem _ (List.mem_append_left _ (List.mem_append_right _ h))) (by decide +kernel))) (goodIn_sub (fun _ h => List.mem_cons_of_mem _ (List.mem_append_right _ h)) (by decide +kernel))
set_option maxRecDepth 20000 in
theorem gL_capabilities_X7_capabilities : GoodIn wsL_capabilities (wsV RL 61 RX7 yX7_capabilities wsX7_capabilities) := goodIn_app (goodIn_of _ (by decide +kernel)) ggL_capabilities_X7_capabilities
theorem dL_capabilities_0 : decode cL_capabilities 0 = .ok (.aload_n 3, 1) := by decide +kernel
theorem dL_capabilities_1 : decode cL_capabilities 1 = .ok (.iconst 0, 1) := by decide +kernel
theorem dL_capabilities_2 : decode cL_capabilities 2 = .ok (.aload_n 0, 1) := by decide +kernel
theorem dL_capabilities_3 : decode cL_capabilities 3 = .ok (.iload_n 1, 1) := by decide +kernel
theorem dL_capabilities_4 : decode cL_capabilities 4 = .ok (.iload_n 2, 1) := by decide +kernel
theorem dL_capabilities_5 : decode cL_capabilities 5 = .ok (.invokevirtual 61, 3) := by decide +kernel
theorem dL_capabilities_8 : decode cL_capabilities 8 = .ok (.i2l, 1) := by decide +kernel
theorem dL_capabilities_9 : decode cL_capabilities 9 = .ok (.lastore, 1) := by decide +kernel
theorem dL_capabilities_10 : decode cL_capabilities 10 = .ok (.goto 11, 3) := by decide +kernel
theorem dL_capabilities_13 : decode cL_capabilities 13 = .ok (.astore 4, 2) := by decide +kernel
theorem dL_capabilities_15 : decode cL_capabilities 15 = .ok (.iconst 1, 1) := by decide +kernel
theorem dL_capabilities_16 : decode cL_capabilities 16 = .ok (.ireturn, 1) := by decide +kernel
theorem dL_capabilities_17 : decode cL_capabilities 17 = .ok (.astore 4, 2) := by decide +kernel
theorem dL_capabilities_19 : decode cL_capabilities 19 = .ok (.iconst 2, 1) := by decide +kernel
theorem dL_capabilities_20 : decode cL_capabilities 20 = .ok (.ireturn, 1) := by decide +kernel
theorem dL_capabilities_21 : decode cL_capabilities 21 = .ok (.iconst 0, 1) := by decide +kernel
theorem dL_capabilities_22 : decode cL_capabilities 22 = .ok (.ireturn, 1) := by decide +kernel
set_option maxRecDepth 20000 in
theorem ggL_request_X7_request : GoodIn wsL_request wsX7_request := goodIn_ca (goodIn_ca (goodIn_ca (goodIn_r _ [8, 9, 10, 11, 12, 13, 14, 15, 16, 17, 7, 18, 19, 20, 21, 22, 23, 24, 25, 26, 27, 28, 29, 30, 31, 32, 33, 34, 35, 36, 37, 38, 39, 40, 41, 42, 43, 44, 45, 46, 47, 48, 49, 50, 51, 52, 53, 54, 55, 56, 57, 58, 59, 60, 61, 62, 63, 64, 65, 66, 67, 68, 69, 70, 71, 72, 73, 74, 75, 76, 77, 78, 79, 80, 81, 82, 83, 84, 85, 86, 87, 88, 89, 90, 91, 92, 93, 94, 95, 96, 97, 98, 99, 100, 101, 102, 103, 104, 105, 106, 107, 108, 109, 110, 111, 112, 113, 114, 115, 116, 117, 118, 119, 120, 121, 122, 123, 124, 125, 126, 127, 128, 129, 130, 131, 132, 133, 134, 135, 136, 137, 138, 139, 140, 141, 142, 143, 144, 145, 146, 147, 148, 149, 150, 151, 152, 153, 154, 155, 156, 157, 158, 159, 160, 161, 162, 163, 164, 165, 166, 167, 168, 169, 170, 171, 172, 173, 174, 175, 176, 177, 178, 179, 180, 181, 182, 183, 184, 185, 186, 187, 188, 189, 190, 191, 192, 193, 194, 195, 196, 197, 198, 199, 200, 201, 202, 203, 204, 205, 206, 207, 208, 209, 210, 211, 212, 213, 214, 215, 216, 217, 218, 219, 220, 221, 222, 223] (by decide +kernel) (by decide +kernel)) (goodIn_sub (fun _ h => List.mem_cons_of_mem _ (List.mem_append_left _ (List.mem_append_left _ (List.mem_append_right _ h)))) (by decide +kernel))) (goodIn_sub (fun _ h => List.mem_cons_of_mem _ (List.mem_append_left _ (List.mem_append_right _ h))) (by decide +kernel))) (goodIn_sub (fun _ h => List.mem_cons_of_mem _ (List.mem_append_right _ h)) (by decide +kernel))
set_option maxRecDepth 20000 in
theorem gL_request_X7_request : GoodIn wsL_request (wsV RL 64 RX7 yX7_request wsX7_request) := goodIn_app (goodIn_of _ (by decide +kernel)) ggL_request_X7_request
theorem dL_request_0 : decode cL_request 0 = .ok (.aload_n 3, 1) := by decide +kernel
theorem dL_request_1 : decode cL_request 1 = .ok (.iconst 0, 1) := by decide +kernel
theorem dL_request_2 : decode cL_request 2 = .ok (.aload_n 0, 1) := by decide +kernel
theorem dL_request_3 : decode cL_request 3 = .ok (.iload_n 1, 1) := by decide +kernel
theorem dL_request_4 : decode cL_request 4 = .ok (.iload_n 2, 1) := by decide +kernel
theorem dL_request_5 : decode cL_request 5 = .ok (.invokevirtual 64, 3) := by decide +kernel
theorem dL_request_8 : decode cL_request 8 = .ok (.i2l, 1) := by decide +kernel
theorem dL_request_9 : decode cL_request 9 = .ok (.lastore, 1) := by decide +kernel
theorem dL_request_10 : decode cL_request 10 = .ok (.goto 15, 3) := by decide +kernel
theorem dL_request_13 : decode cL_request 13 = .ok (.astore 4, 2) := by decide +kernel
theorem dL_request_15 : decode cL_request 15 = .ok (.iconst 1, 1) := by decide +kernel
theorem dL_request_16 : decode cL_request 16 = .ok (.ireturn, 1) := by decide +kernel
theorem dL_request_17 : decode cL_request 17 = .ok (.astore 4, 2) := by decide +kernel
theorem dL_request_19 : decode cL_request 19 = .ok (.iconst 2, 1) := by decide +kernel
theorem dL_request_20 : decode cL_request 20 = .ok (.ireturn, 1) := by decide +kernel
theorem dL_request_21 : decode cL_request 21 = .ok (.astore 4, 2) := by decide +kernel
theorem dL_request_23 : decode cL_request 23 = .ok (.iconst 3, 1) := by decide +kernel
theorem dL_request_24 : decode cL_request 24 = .ok (.ireturn, 1) := by decide +kernel
theorem dL_request_25 : decode cL_request 25 = .ok (.iconst 0, 1) := by decide +kernel
theorem dL_request_26 : decode cL_request 26 = .ok (.ireturn, 1) := by decide +kernel
set_option maxRecDepth 20000 in
theorem ggL_whyDenied_X7_whyDenied : GoodIn wsL_whyDenied wsX7_whyDenied := goodIn_ca (goodIn_ca (goodIn_r _ [7, 8, 9, 10, 6, 11, 12, 13, 14, 15, 16, 17, 18, 19, 20, 21, 22, 23, 24, 25, 26, 27, 28, 29, 30, 31, 32, 33, 34, 35, 36, 37, 38, 39, 40, 41, 42, 43, 44, 45, 46, 47, 48, 49, 50, 51, 52, 53, 54, 55, 56, 57, 58, 59, 60, 61, 62, 63, 64, 65, 66, 67, 68, 69, 70, 71, 72, 73, 74, 75, 76, 77, 78, 79, 80, 81, 82, 83, 84, 85, 86, 87, 88, 89, 90, 91, 92, 93, 94, 95, 96, 97, 98, 99, 100, 101, 102, 103, 104, 105, 106, 107, 108, 109, 110, 111, 112, 113, 114, 115, 116, 117, 118, 119, 120, 121, 122, 123, 124, 125, 126, 127, 128, 129, 130, 131, 132, 133, 134, 135, 136, 137, 138, 139, 140, 141, 142, 143, 144] (by decide +kernel) (by decide +kernel)) (goodIn_sub (fun _ h => List.mem_cons_of_mem _ (List.mem_append_left _ (List.mem_append_right _ h))) (by decide +kernel))) (goodIn_sub (fun _ h => List.mem_cons_of_mem _ (List.mem_append_right _ h)) (by decide +kernel))
set_option maxRecDepth 20000 in
theorem gL_whyDenied_X7_whyDenied : GoodIn wsL_whyDenied (wsV RL 67 RX7 yX7_whyDenied wsX7_whyDenied) := goodIn_app (goodIn_of _ (by decide +kernel)) ggL_whyDenied_X7_whyDenied
theorem dL_whyDenied_0 : decode cL_whyDenied 0 = .ok (.aload_n 3, 1) := by decide +kernel
theorem dL_whyDenied_1 : decode cL_whyDenied 1 = .ok (.iconst 0, 1) := by decide +kernel
theorem dL_whyDenied_2 : decode cL_whyDenied 2 = .ok (.aload_n 0, 1) := by decide +kernel
theorem dL_whyDenied_3 : decode cL_whyDenied 3 = .ok (.iload_n 1, 1) := by decide +kernel
theorem dL_whyDenied_4 : decode cL_whyDenied 4 = .ok (.iload_n 2, 1) := by decide +kernel
theorem dL_whyDenied_5 : decode cL_whyDenied 5 = .ok (.invokevirtual 67, 3) := by decide +kernel
theorem dL_whyDenied_8 : decode cL_whyDenied 8 = .ok (.i2l, 1) := by decide +kernel
theorem dL_whyDenied_9 : decode cL_whyDenied 9 = .ok (.lastore, 1) := by decide +kernel
theorem dL_whyDenied_10 : decode cL_whyDenied 10 = .ok (.goto 11, 3) := by decide +kernel
theorem dL_whyDenied_13 : decode cL_whyDenied 13 = .ok (.astore 4, 2) := by decide +kernel
theorem dL_whyDenied_15 : decode cL_whyDenied 15 = .ok (.iconst 1, 1) := by decide +kernel
theorem dL_whyDenied_16 : decode cL_whyDenied 16 = .ok (.ireturn, 1) := by decide +kernel
theorem dL_whyDenied_17 : decode cL_whyDenied 17 = .ok (.astore 4, 2) := by decide +kernel
theorem dL_whyDenied_19 : decode cL_whyDenied 19 = .ok (.iconst 2, 1) := by decide +kernel
theorem dL_whyDenied_20 : decode cL_whyDenied 20 = .ok (.ireturn, 1) := by decide +kernel
theorem dL_whyDenied_21 : decode cL_whyDenied 21 = .ok (.iconst 0, 1) := by decide +kernel
