/-! one answer, call by call -/
theorem pS_text {α : Type} (a_T a_text a_told a_now a_scr a_k0 a_k1 a_hist a_plan a_r0 a_r1 a_r2 a_mod : List α) : (a_T ++ (a_text ++ (a_told ++ (a_now ++ (a_scr ++ (a_k0 ++ (a_k1 ++ (a_hist ++ (a_plan ++ (a_r0 ++ (a_r1 ++ (a_r2 ++ a_mod)))))))))))).Perm ((a_T ++ a_text) ++ ((a_told ++ (a_now ++ (a_scr ++ (a_k0 ++ (a_k1 ++ (a_hist ++ (a_plan ++ (a_r0 ++ (a_r1 ++ a_r2))))))))) ++ a_mod)) := by
  classical
  exact List.perm_iff_count.2 fun x => by simp only [List.count_append]; omega
theorem pE_text {α : Type} {a_T a_text a_told a_now a_scr a_k0 a_k1 a_hist a_plan a_r0 a_r1 a_r2 a_mod : List α} : (a_mod ++ ((a_T ++ a_text) ++ (a_told ++ (a_now ++ (a_scr ++ (a_k0 ++ (a_k1 ++ (a_hist ++ (a_plan ++ (a_r0 ++ (a_r1 ++ a_r2))))))))))).Perm (a_T ++ (a_text ++ (a_told ++ (a_now ++ (a_scr ++ (a_k0 ++ (a_k1 ++ (a_hist ++ (a_plan ++ (a_r0 ++ (a_r1 ++ (a_r2 ++ a_mod)))))))))))) := by
  classical
  exact List.perm_iff_count.2 fun x => by simp only [List.count_append]; omega
theorem pS_fault {α : Type} (a_T a_text a_told a_now a_scr a_k0 a_k1 a_hist a_plan a_r0 a_r1 a_r2 a_mod : List α) : (a_T ++ (a_text ++ (a_told ++ (a_now ++ (a_scr ++ (a_k0 ++ (a_k1 ++ (a_hist ++ (a_plan ++ (a_r0 ++ (a_r1 ++ (a_r2 ++ a_mod)))))))))))).Perm ((a_T ++ (a_text ++ (a_told ++ a_scr))) ++ ((a_now ++ (a_k0 ++ (a_k1 ++ (a_hist ++ (a_plan ++ (a_r0 ++ (a_r1 ++ a_r2))))))) ++ a_mod)) := by
  classical
  exact List.perm_iff_count.2 fun x => by simp only [List.count_append]; omega
theorem pE_fault {α : Type} {a_T a_text a_told a_now a_scr a_k0 a_k1 a_hist a_plan a_r0 a_r1 a_r2 a_mod : List α} : (a_mod ++ ((a_T ++ (a_text ++ (a_told ++ a_scr))) ++ (a_now ++ (a_k0 ++ (a_k1 ++ (a_hist ++ (a_plan ++ (a_r0 ++ (a_r1 ++ a_r2))))))))).Perm (a_T ++ (a_text ++ (a_told ++ (a_now ++ (a_scr ++ (a_k0 ++ (a_k1 ++ (a_hist ++ (a_plan ++ (a_r0 ++ (a_r1 ++ (a_r2 ++ a_mod)))))))))))) := by
  classical
  exact List.perm_iff_count.2 fun x => by simp only [List.count_append]; omega
theorem pS_net {α : Type} (a_T a_text a_told a_now a_scr a_k0 a_k1 a_hist a_plan a_r0 a_r1 a_r2 a_mod : List α) : (a_T ++ (a_text ++ (a_told ++ (a_now ++ (a_scr ++ (a_k0 ++ (a_k1 ++ (a_hist ++ (a_plan ++ (a_r0 ++ (a_r1 ++ (a_r2 ++ a_mod)))))))))))).Perm ((a_T ++ (a_text ++ (a_told ++ (a_now ++ (a_scr ++ (a_hist ++ (a_r0 ++ (a_r1 ++ a_r2)))))))) ++ ((a_k0 ++ (a_k1 ++ a_plan)) ++ a_mod)) := by
  classical
  exact List.perm_iff_count.2 fun x => by simp only [List.count_append]; omega
theorem pE_net {α : Type} {a_T a_text a_told a_now a_scr a_k0 a_k1 a_hist a_plan a_r0 a_r1 a_r2 a_mod : List α} : (a_mod ++ ((a_T ++ (a_text ++ (a_told ++ (a_now ++ (a_scr ++ (a_hist ++ (a_r0 ++ (a_r1 ++ a_r2)))))))) ++ (a_k0 ++ (a_k1 ++ a_plan)))).Perm (a_T ++ (a_text ++ (a_told ++ (a_now ++ (a_scr ++ (a_k0 ++ (a_k1 ++ (a_hist ++ (a_plan ++ (a_r0 ++ (a_r1 ++ (a_r2 ++ a_mod)))))))))))) := by
  classical
  exact List.perm_iff_count.2 fun x => by simp only [List.count_append]; omega
theorem pS_now {α : Type} (a_T a_text a_told a_now a_scr a_k0 a_k1 a_hist a_plan a_r0 a_r1 a_r2 a_mod : List α) : (a_T ++ (a_text ++ (a_told ++ (a_now ++ (a_scr ++ (a_k0 ++ (a_k1 ++ (a_hist ++ (a_plan ++ (a_r0 ++ (a_r1 ++ (a_r2 ++ a_mod)))))))))))).Perm ((a_T ++ a_now) ++ ((a_text ++ (a_told ++ (a_scr ++ (a_k0 ++ (a_k1 ++ (a_hist ++ (a_plan ++ (a_r0 ++ (a_r1 ++ a_r2))))))))) ++ a_mod)) := by
  classical
  exact List.perm_iff_count.2 fun x => by simp only [List.count_append]; omega
theorem pE_now {α : Type} {a_T a_text a_told a_now a_scr a_k0 a_k1 a_hist a_plan a_r0 a_r1 a_r2 a_mod : List α} : (a_mod ++ ((a_T ++ a_now) ++ (a_text ++ (a_told ++ (a_scr ++ (a_k0 ++ (a_k1 ++ (a_hist ++ (a_plan ++ (a_r0 ++ (a_r1 ++ a_r2))))))))))).Perm (a_T ++ (a_text ++ (a_told ++ (a_now ++ (a_scr ++ (a_k0 ++ (a_k1 ++ (a_hist ++ (a_plan ++ (a_r0 ++ (a_r1 ++ (a_r2 ++ a_mod)))))))))))) := by
  classical
  exact List.perm_iff_count.2 fun x => by simp only [List.count_append]; omega
theorem pS_nh {α : Type} (a_T a_text a_told a_now a_scr a_k0 a_k1 a_hist a_plan a_r0 a_r1 a_r2 a_mod : List α) : (a_T ++ (a_text ++ (a_told ++ (a_now ++ (a_scr ++ (a_k0 ++ (a_k1 ++ (a_hist ++ (a_plan ++ (a_r0 ++ (a_r1 ++ (a_r2 ++ a_mod)))))))))))).Perm ((a_T ++ (a_now ++ a_hist)) ++ ((a_text ++ (a_told ++ (a_scr ++ (a_k0 ++ (a_k1 ++ (a_plan ++ (a_r0 ++ (a_r1 ++ a_r2)))))))) ++ a_mod)) := by
  classical
  exact List.perm_iff_count.2 fun x => by simp only [List.count_append]; omega
theorem pE_nh {α : Type} {a_T a_text a_told a_now a_scr a_k0 a_k1 a_hist a_plan a_r0 a_r1 a_r2 a_mod : List α} : (a_mod ++ ((a_T ++ (a_now ++ a_hist)) ++ (a_text ++ (a_told ++ (a_scr ++ (a_k0 ++ (a_k1 ++ (a_plan ++ (a_r0 ++ (a_r1 ++ a_r2)))))))))).Perm (a_T ++ (a_text ++ (a_told ++ (a_now ++ (a_scr ++ (a_k0 ++ (a_k1 ++ (a_hist ++ (a_plan ++ (a_r0 ++ (a_r1 ++ (a_r2 ++ a_mod)))))))))))) := by
  classical
  exact List.perm_iff_count.2 fun x => by simp only [List.count_append]; omega
theorem pS_k0 {α : Type} (a_T a_text a_told a_now a_scr a_k0 a_k1 a_hist a_plan a_r0 a_r1 a_r2 a_mod : List α) : (a_T ++ (a_text ++ (a_told ++ (a_now ++ (a_scr ++ (a_k0 ++ (a_k1 ++ (a_hist ++ (a_plan ++ (a_r0 ++ (a_r1 ++ (a_r2 ++ a_mod)))))))))))).Perm ((a_T ++ (a_now ++ a_k0)) ++ ((a_text ++ (a_told ++ (a_scr ++ (a_k1 ++ (a_hist ++ (a_plan ++ (a_r0 ++ (a_r1 ++ a_r2)))))))) ++ a_mod)) := by
  classical
  exact List.perm_iff_count.2 fun x => by simp only [List.count_append]; omega
theorem pE_k0 {α : Type} {a_T a_text a_told a_now a_scr a_k0 a_k1 a_hist a_plan a_r0 a_r1 a_r2 a_mod : List α} : (a_mod ++ ((a_T ++ (a_now ++ a_k0)) ++ (a_text ++ (a_told ++ (a_scr ++ (a_k1 ++ (a_hist ++ (a_plan ++ (a_r0 ++ (a_r1 ++ a_r2)))))))))).Perm (a_T ++ (a_text ++ (a_told ++ (a_now ++ (a_scr ++ (a_k0 ++ (a_k1 ++ (a_hist ++ (a_plan ++ (a_r0 ++ (a_r1 ++ (a_r2 ++ a_mod)))))))))))) := by
  classical
  exact List.perm_iff_count.2 fun x => by simp only [List.count_append]; omega
theorem pS_k1 {α : Type} (a_T a_text a_told a_now a_scr a_k0 a_k1 a_hist a_plan a_r0 a_r1 a_r2 a_mod : List α) : (a_T ++ (a_text ++ (a_told ++ (a_now ++ (a_scr ++ (a_k0 ++ (a_k1 ++ (a_hist ++ (a_plan ++ (a_r0 ++ (a_r1 ++ (a_r2 ++ a_mod)))))))))))).Perm ((a_T ++ (a_now ++ a_k1)) ++ ((a_text ++ (a_told ++ (a_scr ++ (a_k0 ++ (a_hist ++ (a_plan ++ (a_r0 ++ (a_r1 ++ a_r2)))))))) ++ a_mod)) := by
  classical
  exact List.perm_iff_count.2 fun x => by simp only [List.count_append]; omega
theorem pE_k1 {α : Type} {a_T a_text a_told a_now a_scr a_k0 a_k1 a_hist a_plan a_r0 a_r1 a_r2 a_mod : List α} : (a_mod ++ ((a_T ++ (a_now ++ a_k1)) ++ (a_text ++ (a_told ++ (a_scr ++ (a_k0 ++ (a_hist ++ (a_plan ++ (a_r0 ++ (a_r1 ++ a_r2)))))))))).Perm (a_T ++ (a_text ++ (a_told ++ (a_now ++ (a_scr ++ (a_k0 ++ (a_k1 ++ (a_hist ++ (a_plan ++ (a_r0 ++ (a_r1 ++ (a_r2 ++ a_mod)))))))))))) := by
  classical
  exact List.perm_iff_count.2 fun x => by simp only [List.count_append]; omega
theorem pS_b0 {α : Type} (a_T a_text a_told a_now a_scr a_k0 a_k1 a_hist a_plan a_r0 a_r1 a_r2 a_mod : List α) : (a_T ++ (a_text ++ (a_told ++ (a_now ++ (a_scr ++ (a_k0 ++ (a_k1 ++ (a_hist ++ (a_plan ++ (a_r0 ++ (a_r1 ++ (a_r2 ++ a_mod)))))))))))).Perm ((a_T ++ (a_now ++ (a_k0 ++ a_hist))) ++ ((a_text ++ (a_told ++ (a_scr ++ (a_k1 ++ (a_plan ++ (a_r0 ++ (a_r1 ++ a_r2))))))) ++ a_mod)) := by
  classical
  exact List.perm_iff_count.2 fun x => by simp only [List.count_append]; omega
theorem pE_b0 {α : Type} {a_T a_text a_told a_now a_scr a_k0 a_k1 a_hist a_plan a_r0 a_r1 a_r2 a_mod : List α} : (a_mod ++ ((a_T ++ (a_now ++ (a_k0 ++ a_hist))) ++ (a_text ++ (a_told ++ (a_scr ++ (a_k1 ++ (a_plan ++ (a_r0 ++ (a_r1 ++ a_r2))))))))).Perm (a_T ++ (a_text ++ (a_told ++ (a_now ++ (a_scr ++ (a_k0 ++ (a_k1 ++ (a_hist ++ (a_plan ++ (a_r0 ++ (a_r1 ++ (a_r2 ++ a_mod)))))))))))) := by
  classical
  exact List.perm_iff_count.2 fun x => by simp only [List.count_append]; omega
theorem pS_b1 {α : Type} (a_T a_text a_told a_now a_scr a_k0 a_k1 a_hist a_plan a_r0 a_r1 a_r2 a_mod : List α) : (a_T ++ (a_text ++ (a_told ++ (a_now ++ (a_scr ++ (a_k0 ++ (a_k1 ++ (a_hist ++ (a_plan ++ (a_r0 ++ (a_r1 ++ (a_r2 ++ a_mod)))))))))))).Perm ((a_T ++ (a_now ++ (a_k1 ++ a_hist))) ++ ((a_text ++ (a_told ++ (a_scr ++ (a_k0 ++ (a_plan ++ (a_r0 ++ (a_r1 ++ a_r2))))))) ++ a_mod)) := by
  classical
  exact List.perm_iff_count.2 fun x => by simp only [List.count_append]; omega
theorem pE_b1 {α : Type} {a_T a_text a_told a_now a_scr a_k0 a_k1 a_hist a_plan a_r0 a_r1 a_r2 a_mod : List α} : (a_mod ++ ((a_T ++ (a_now ++ (a_k1 ++ a_hist))) ++ (a_text ++ (a_told ++ (a_scr ++ (a_k0 ++ (a_plan ++ (a_r0 ++ (a_r1 ++ a_r2))))))))).Perm (a_T ++ (a_text ++ (a_told ++ (a_now ++ (a_scr ++ (a_k0 ++ (a_k1 ++ (a_hist ++ (a_plan ++ (a_r0 ++ (a_r1 ++ (a_r2 ++ a_mod)))))))))))) := by
  classical
  exact List.perm_iff_count.2 fun x => by simp only [List.count_append]; omega
theorem pS_T {α : Type} (a_T a_text a_told a_now a_scr a_k0 a_k1 a_hist a_plan a_r0 a_r1 a_r2 a_mod : List α) : (a_T ++ (a_text ++ (a_told ++ (a_now ++ (a_scr ++ (a_k0 ++ (a_k1 ++ (a_hist ++ (a_plan ++ (a_r0 ++ (a_r1 ++ (a_r2 ++ a_mod)))))))))))).Perm (a_T ++ ((a_text ++ (a_told ++ (a_now ++ (a_scr ++ (a_k0 ++ (a_k1 ++ (a_hist ++ (a_plan ++ (a_r0 ++ (a_r1 ++ a_r2)))))))))) ++ a_mod)) := by
  classical
  exact List.perm_iff_count.2 fun x => by simp only [List.count_append]; omega
theorem pE_T {α : Type} {a_T a_text a_told a_now a_scr a_k0 a_k1 a_hist a_plan a_r0 a_r1 a_r2 a_mod : List α} : (a_mod ++ (a_T ++ (a_text ++ (a_told ++ (a_now ++ (a_scr ++ (a_k0 ++ (a_k1 ++ (a_hist ++ (a_plan ++ (a_r0 ++ (a_r1 ++ a_r2)))))))))))).Perm (a_T ++ (a_text ++ (a_told ++ (a_now ++ (a_scr ++ (a_k0 ++ (a_k1 ++ (a_hist ++ (a_plan ++ (a_r0 ++ (a_r1 ++ (a_r2 ++ a_mod)))))))))))) := by
  classical
  exact List.perm_iff_count.2 fun x => by simp only [List.count_append]; omega
theorem pS_plan {α : Type} (a_T a_text a_told a_now a_scr a_k0 a_k1 a_hist a_plan a_r0 a_r1 a_r2 a_mod : List α) : (a_T ++ (a_text ++ (a_told ++ (a_now ++ (a_scr ++ (a_k0 ++ (a_k1 ++ (a_hist ++ (a_plan ++ (a_r0 ++ (a_r1 ++ (a_r2 ++ a_mod)))))))))))).Perm ((a_T ++ (a_now ++ a_plan)) ++ ((a_text ++ (a_told ++ (a_scr ++ (a_k0 ++ (a_k1 ++ (a_hist ++ (a_r0 ++ (a_r1 ++ a_r2)))))))) ++ a_mod)) := by
  classical
  exact List.perm_iff_count.2 fun x => by simp only [List.count_append]; omega
theorem pE_plan {α : Type} {a_T a_text a_told a_now a_scr a_k0 a_k1 a_hist a_plan a_r0 a_r1 a_r2 a_mod : List α} : (a_mod ++ ((a_T ++ (a_now ++ a_plan)) ++ (a_text ++ (a_told ++ (a_scr ++ (a_k0 ++ (a_k1 ++ (a_hist ++ (a_r0 ++ (a_r1 ++ a_r2)))))))))).Perm (a_T ++ (a_text ++ (a_told ++ (a_now ++ (a_scr ++ (a_k0 ++ (a_k1 ++ (a_hist ++ (a_plan ++ (a_r0 ++ (a_r1 ++ (a_r2 ++ a_mod)))))))))))) := by
  classical
  exact List.perm_iff_count.2 fun x => by simp only [List.count_append]; omega
theorem pS_buf {α : Type} (a_T a_text a_told a_now a_scr a_k0 a_k1 a_hist a_plan a_r0 a_r1 a_r2 a_mod : List α) : (a_T ++ (a_text ++ (a_told ++ (a_now ++ (a_scr ++ (a_k0 ++ (a_k1 ++ (a_hist ++ (a_plan ++ (a_r0 ++ (a_r1 ++ (a_r2 ++ a_mod)))))))))))).Perm ((a_T ++ (a_now ++ (a_scr ++ a_plan))) ++ ((a_text ++ (a_told ++ (a_k0 ++ (a_k1 ++ (a_hist ++ (a_r0 ++ (a_r1 ++ a_r2))))))) ++ a_mod)) := by
  classical
  exact List.perm_iff_count.2 fun x => by simp only [List.count_append]; omega
theorem pE_buf {α : Type} {a_T a_text a_told a_now a_scr a_k0 a_k1 a_hist a_plan a_r0 a_r1 a_r2 a_mod : List α} : (a_mod ++ ((a_T ++ (a_now ++ (a_scr ++ a_plan))) ++ (a_text ++ (a_told ++ (a_k0 ++ (a_k1 ++ (a_hist ++ (a_r0 ++ (a_r1 ++ a_r2))))))))).Perm (a_T ++ (a_text ++ (a_told ++ (a_now ++ (a_scr ++ (a_k0 ++ (a_k1 ++ (a_hist ++ (a_plan ++ (a_r0 ++ (a_r1 ++ (a_r2 ++ a_mod)))))))))))) := by
  classical
  exact List.perm_iff_count.2 fun x => by simp only [List.count_append]; omega
theorem pS_r0 {α : Type} (a_T a_text a_told a_now a_scr a_k0 a_k1 a_hist a_plan a_r0 a_r1 a_r2 a_mod : List α) : (a_T ++ (a_text ++ (a_told ++ (a_now ++ (a_scr ++ (a_k0 ++ (a_k1 ++ (a_hist ++ (a_plan ++ (a_r0 ++ (a_r1 ++ (a_r2 ++ a_mod)))))))))))).Perm ((a_T ++ a_r0) ++ ((a_text ++ (a_told ++ (a_now ++ (a_scr ++ (a_k0 ++ (a_k1 ++ (a_hist ++ (a_plan ++ (a_r1 ++ a_r2))))))))) ++ a_mod)) := by
  classical
  exact List.perm_iff_count.2 fun x => by simp only [List.count_append]; omega
theorem pE_r0 {α : Type} {a_T a_text a_told a_now a_scr a_k0 a_k1 a_hist a_plan a_r0 a_r1 a_r2 a_mod : List α} : (a_mod ++ ((a_T ++ a_r0) ++ (a_text ++ (a_told ++ (a_now ++ (a_scr ++ (a_k0 ++ (a_k1 ++ (a_hist ++ (a_plan ++ (a_r1 ++ a_r2))))))))))).Perm (a_T ++ (a_text ++ (a_told ++ (a_now ++ (a_scr ++ (a_k0 ++ (a_k1 ++ (a_hist ++ (a_plan ++ (a_r0 ++ (a_r1 ++ (a_r2 ++ a_mod)))))))))))) := by
  classical
  exact List.perm_iff_count.2 fun x => by simp only [List.count_append]; omega
theorem pS_r1 {α : Type} (a_T a_text a_told a_now a_scr a_k0 a_k1 a_hist a_plan a_r0 a_r1 a_r2 a_mod : List α) : (a_T ++ (a_text ++ (a_told ++ (a_now ++ (a_scr ++ (a_k0 ++ (a_k1 ++ (a_hist ++ (a_plan ++ (a_r0 ++ (a_r1 ++ (a_r2 ++ a_mod)))))))))))).Perm ((a_T ++ a_r1) ++ ((a_text ++ (a_told ++ (a_now ++ (a_scr ++ (a_k0 ++ (a_k1 ++ (a_hist ++ (a_plan ++ (a_r0 ++ a_r2))))))))) ++ a_mod)) := by
  classical
  exact List.perm_iff_count.2 fun x => by simp only [List.count_append]; omega
theorem pE_r1 {α : Type} {a_T a_text a_told a_now a_scr a_k0 a_k1 a_hist a_plan a_r0 a_r1 a_r2 a_mod : List α} : (a_mod ++ ((a_T ++ a_r1) ++ (a_text ++ (a_told ++ (a_now ++ (a_scr ++ (a_k0 ++ (a_k1 ++ (a_hist ++ (a_plan ++ (a_r0 ++ a_r2))))))))))).Perm (a_T ++ (a_text ++ (a_told ++ (a_now ++ (a_scr ++ (a_k0 ++ (a_k1 ++ (a_hist ++ (a_plan ++ (a_r0 ++ (a_r1 ++ (a_r2 ++ a_mod)))))))))))) := by
  classical
  exact List.perm_iff_count.2 fun x => by simp only [List.count_append]; omega
theorem pS_r2 {α : Type} (a_T a_text a_told a_now a_scr a_k0 a_k1 a_hist a_plan a_r0 a_r1 a_r2 a_mod : List α) : (a_T ++ (a_text ++ (a_told ++ (a_now ++ (a_scr ++ (a_k0 ++ (a_k1 ++ (a_hist ++ (a_plan ++ (a_r0 ++ (a_r1 ++ (a_r2 ++ a_mod)))))))))))).Perm ((a_T ++ a_r2) ++ ((a_text ++ (a_told ++ (a_now ++ (a_scr ++ (a_k0 ++ (a_k1 ++ (a_hist ++ (a_plan ++ (a_r0 ++ a_r1))))))))) ++ a_mod)) := by
  classical
  exact List.perm_iff_count.2 fun x => by simp only [List.count_append]; omega
theorem pE_r2 {α : Type} {a_T a_text a_told a_now a_scr a_k0 a_k1 a_hist a_plan a_r0 a_r1 a_r2 a_mod : List α} : (a_mod ++ ((a_T ++ a_r2) ++ (a_text ++ (a_told ++ (a_now ++ (a_scr ++ (a_k0 ++ (a_k1 ++ (a_hist ++ (a_plan ++ (a_r0 ++ a_r1))))))))))).Perm (a_T ++ (a_text ++ (a_told ++ (a_now ++ (a_scr ++ (a_k0 ++ (a_k1 ++ (a_hist ++ (a_plan ++ (a_r0 ++ (a_r1 ++ (a_r2 ++ a_mod)))))))))))) := by
  classical
  exact List.perm_iff_count.2 fun x => by simp only [List.count_append]; omega
theorem pS_count {α : Type} (a_T a_text a_told a_now a_scr a_k0 a_k1 a_hist a_plan a_r0 a_r1 a_r2 a_mod : List α) : (a_T ++ (a_text ++ (a_told ++ (a_now ++ (a_scr ++ (a_k0 ++ (a_k1 ++ (a_hist ++ (a_plan ++ (a_r0 ++ (a_r1 ++ (a_r2 ++ a_mod)))))))))))).Perm ((a_T ++ (a_text ++ (a_now ++ (a_hist ++ (a_r0 ++ (a_r1 ++ a_r2)))))) ++ ((a_told ++ (a_scr ++ (a_k0 ++ (a_k1 ++ a_plan)))) ++ a_mod)) := by
  classical
  exact List.perm_iff_count.2 fun x => by simp only [List.count_append]; omega
theorem pE_count {α : Type} {a_T a_text a_told a_now a_scr a_k0 a_k1 a_hist a_plan a_r0 a_r1 a_r2 a_mod : List α} : (a_mod ++ ((a_T ++ (a_text ++ (a_now ++ (a_hist ++ (a_r0 ++ (a_r1 ++ a_r2)))))) ++ (a_told ++ (a_scr ++ (a_k0 ++ (a_k1 ++ a_plan)))))).Perm (a_T ++ (a_text ++ (a_told ++ (a_now ++ (a_scr ++ (a_k0 ++ (a_k1 ++ (a_hist ++ (a_plan ++ (a_r0 ++ (a_r1 ++ (a_r2 ++ a_mod)))))))))))) := by
  classical
  exact List.perm_iff_count.2 fun x => by simp only [List.count_append]; omega
theorem pM {α : Type} {a b c : List α} : (a ++ (b ++ c)).Perm (c ++ (a ++ b)) := by
  classical
  exact List.perm_iff_count.2 fun x => by simp only [List.count_append]; omega
/-- the whole world at the law's loop -/
def wS (q : Nat → Nat) (Y : Nat → ClassId) (qt qd qn qs : Nat → Nat) (qk : Nat → Nat → Nat) (qh qp : Nat → Nat) (qr : Nat → Nat → Nat) (qm : Nat → Nat) (K It L : Nat → Int) (Jd : Nat → Int) (Nd : Nat → Nat → Int) (J : Nat → Int) (N : Nat → Nat → Int) (Js : Nat → Int) (Ns : Nat → Nat → Int) (Jk : Nat → Nat → Int) (Nk : Nat → Nat → Nat → Int) (Ih : Nat → Int) (Ah : Nat → Nat → Int) (Ip : Nat → Int) (Ap Bp : Nat → Nat → Int) (Ir : Nat → Nat → Int) (V : Nat → Nat → UInt64) (M : Nat → Nat → Int) (I : Nat → Int) (A : Nat → Nat → Int) (F : Nat → UInt32) (Dd : Nat → UInt64) : va_W := ((wTop q Y qt qd qn qs qk qh qp qr K) ++ ((wText qt Y It L) ++ ((wNet qd Y Jd Nd) ++ ((wNet qn Y J N) ++ ((wNet qs Y Js Ns) ++ ((wNet (qk 0) Y (Jk 0) (Nk 0)) ++ ((wNet (qk 1) Y (Jk 1) (Nk 1)) ++ ((wHist qh Y Ih Ah) ++ ((wPlan qp Y Ip Ap Bp) ++ ((wTrace (qr 0) Y (Ir 0) (V 0) (M 0)) ++ ((wTrace (qr 1) Y (Ir 1) (V 1) (M 1)) ++ ((wTrace (qr 2) Y (Ir 2) (V 2) (M 2)) ++ (wMod qm Y I A F Dd)))))))))))))
/-- one answer of both, and a state of both after it -/
def prR (q : Nat → Nat) (Y : Nat → ClassId) (qt qd qn qs : Nat → Nat) (qk : Nat → Nat → Nat) (qh qp : Nat → Nat) (qr : Nat → Nat → Nat) (qm : Nat → Nat) (r7 r8 : Option Value) (w : va_W) : Prop := ∃ z : Int, r7 = some (.int (iI z)) ∧ r8 = some (.int (iI z)) ∧ ∃ (K It L : Nat → Int) (Jd : Nat → Int) (Nd : Nat → Nat → Int) (J : Nat → Int) (N : Nat → Nat → Int) (Js : Nat → Int) (Ns : Nat → Nat → Int) (Jk : Nat → Nat → Int) (Nk : Nat → Nat → Nat → Int) (Ih : Nat → Int) (Ah : Nat → Nat → Int) (Ip : Nat → Int) (Ap Bp : Nat → Nat → Int) (Ir : Nat → Nat → Int) (V : Nat → Nat → UInt64) (M : Nat → Nat → Int) (I : Nat → Int) (A : Nat → Nat → Int) (F : Nat → UInt32) (Dd : Nat → UInt64), (REL K It L Jd Nd J N Js Ns Jk Nk Ih Ah Ip Ap Bp Ir V M I A F Dd) ∧ w.Perm (wS q Y qt qd qn qs qk qh qp qr qm K It L Jd Nd J N Js Ns Jk Nk Ih Ah Ip Ap Bp Ir V M I A F Dd)
section
variable {K It L : Nat → Int} {Jd : Nat → Int} {Nd : Nat → Nat → Int} {J : Nat → Int} {N : Nat → Nat → Int} {Js : Nat → Int} {Ns : Nat → Nat → Int} {Jk : Nat → Nat → Int} {Nk : Nat → Nat → Nat → Int} {Ih : Nat → Int} {Ah : Nat → Nat → Int} {Ip : Nat → Int} {Ap Bp : Nat → Nat → Int} {Ir : Nat → Nat → Int} {V : Nat → Nat → UInt64} {M : Nat → Nat → Int} {I : Nat → Int} {A : Nat → Nat → Int} {F : Nat → UInt32} {Dd : Nat → UInt64}
variable {q : Nat → Nat} {Y : Nat → ClassId} {qt qd qn qs : Nat → Nat} {qk : Nat → Nat → Nat} {qh qp : Nat → Nat} {qr : Nat → Nat → Nat} {qm : Nat → Nat}
theorem prS (R : (REL K It L Jd Nd J N Js Ns Jk Nk Ih Ah Ip Ap Bp Ir V M I A F Dd)) {z : Int} {w : va_W} (h : w.Perm (wS q Y qt qd qn qs qk qh qp qr qm K It L Jd Nd J N Js Ns Jk Nk Ih Ah Ip Ap Bp Ir V M I A F Dd)) : prR q Y qt qd qn qs qk qh qp qr qm (some (.int (iI z))) (some (.int (iI z))) w := ⟨z, rfl, rfl, _, _, _, _, _, _, _, _, _, _, _, _, _, _, _, _, _, _, _, _, _, _, _, R, h⟩
theorem prZ (R : (REL K It L Jd Nd J N Js Ns Jk Nk Ih Ah Ip Ap Bp Ir V M I A F Dd)) {y z : Int} (e : y = z) {w : va_W} (h : w.Perm (wS q Y qt qd qn qs qk qh qp qr qm K It L Jd Nd J N Js Ns Jk Nk Ih Ah Ip Ap Bp Ir V M I A F Dd)) : prR q Y qt qd qn qs qk qh qp qr qm (some (.int (iI y))) (some (.int (iI z))) w := by
  subst e
  exact prS R h
theorem pr_path (R : (REL K It L Jd Nd J N Js Ns Jk Nk Ih Ah Ip Ap Bp Ir V M I A F Dd)) {x y : Int} {r7 r8 : Option Value} {w7 w8 : va_W} (h7 : (g_det (some (.int (iI (paV J N x y)))) ((wTop q Y qt qd qn qs qk qh qp qr K) ++ (wNet qn Y J N))) r7 w7) (h8 : (g_det (some (.int (iI (paV (mJ I A) (mN A) x y)))) (wMod qm Y I A F Dd)) r8 w8) : prR q Y qt qd qn qs qk qh qp qr qm r7 r8 (w8 ++ (w7 ++ ((wText qt Y It L) ++ ((wNet qd Y Jd Nd) ++ ((wNet qs Y Js Ns) ++ ((wNet (qk 0) Y (Jk 0) (Nk 0)) ++ ((wNet (qk 1) Y (Jk 1) (Nk 1)) ++ ((wHist qh Y Ih Ah) ++ ((wPlan qp Y Ip Ap Bp) ++ ((wTrace (qr 0) Y (Ir 0) (V 0) (M 0)) ++ ((wTrace (qr 1) Y (Ir 1) (V 1) (M 1)) ++ (wTrace (qr 2) Y (Ir 2) (V 2) (M 2))))))))))))) := by
  obtain ⟨rfl, rfl⟩ := h7
  obtain ⟨rfl, rfl⟩ := h8
  refine prZ R ?_ pE_now
  obtain ⟨⟨e0, e1, e2, e3, e4, e5⟩, e6⟩ := R_q R
  unfold paV
  rw [← e5]
  by_cases hx : 0 ≤ x ∧ x < J 5
  · obtain ⟨k6, k7, k8, k9⟩ := e6 x.toNat (by omega)
    rw [k6, k7, k8, k9, e4, e1, e2]
  · rw [if_pos hx, if_pos hx]

theorem pr_feasible (R : (REL K It L Jd Nd J N Js Ns Jk Nk Ih Ah Ip Ap Bp Ir V M I A F Dd))  {r7 r8 : Option Value} {w7 w8 : va_W} (h7 : (fun r9 w9 => ∃ (I1 : Nat → Int) (A1 B1 : Nat → Nat → Int), w9 = ((wTop q Y qt qd qn qs qk qh qp qr K) ++ ((wNet qn Y J N) ++ (wPlan qp Y I1 A1 B1))) ∧ smI I1 ∧ smA A1 ∧ okB B1 ∧ ∃ z : Int, r9 = some (.int (iI z)) ∧ feIs J N z) r7 w7) (h8 : (fun r9 w9 => ∃ A1 : Nat → Nat → Int, w9 = wMod qm Y I A1 F Dd ∧ smA A1 ∧ kpA A A1 ∧ ∃ z : Int, r9 = some (.int (iI z)) ∧ feIs (mJ I A) (mN A) z) r8 w8) : prR q Y qt qd qn qs qk qh qp qr qm r7 r8 (w8 ++ (w7 ++ ((wText qt Y It L) ++ ((wNet qd Y Jd Nd) ++ ((wNet qs Y Js Ns) ++ ((wNet (qk 0) Y (Jk 0) (Nk 0)) ++ ((wNet (qk 1) Y (Jk 1) (Nk 1)) ++ ((wHist qh Y Ih Ah) ++ ((wTrace (qr 0) Y (Ir 0) (V 0) (M 0)) ++ ((wTrace (qr 1) Y (Ir 1) (V 1) (M 1)) ++ (wTrace (qr 2) Y (Ir 2) (V 2) (M 2)))))))))))) := by
  obtain ⟨I1, A1, B1, rfl, b1, b2, b3, z, rfl, b4⟩ := h7
  obtain ⟨A2, rfl, c1, c2, y, rfl, c3⟩ := h8
  exact prZ (R_ta (R_p R ⟨b1, b2, b3⟩) c1 c2) (feIs_u b4 (feIs_q (R_q R) c3)) pE_plan

theorem pr_shift (R : (REL K It L Jd Nd J N Js Ns Jk Nk Ih Ah Ip Ap Bp Ir V M I A F Dd)) {x : Int} {r7 r8 : Option Value} {w7 w8 : va_W} (h7 : (fun r9 w9 => ∃ (I1 : Nat → Int) (A1 B1 : Nat → Nat → Int), w9 = ((wTop q Y qt qd qn qs qk qh qp qr K) ++ ((wNet qn Y J N) ++ (wPlan qp Y I1 A1 B1))) ∧ smI I1 ∧ smA A1 ∧ okB B1 ∧ ∃ z : Int, r9 = some (.int (iI z)) ∧ shIs J N x z) r7 w7) (h8 : (fun r9 w9 => ∃ A1 : Nat → Nat → Int, w9 = wMod qm Y I A1 F Dd ∧ smA A1 ∧ kpA A A1 ∧ ∃ z : Int, r9 = some (.int (iI z)) ∧ shIs (mJ I A) (mN A) x z) r8 w8) : prR q Y qt qd qn qs qk qh qp qr qm r7 r8 (w8 ++ (w7 ++ ((wText qt Y It L) ++ ((wNet qd Y Jd Nd) ++ ((wNet qs Y Js Ns) ++ ((wNet (qk 0) Y (Jk 0) (Nk 0)) ++ ((wNet (qk 1) Y (Jk 1) (Nk 1)) ++ ((wHist qh Y Ih Ah) ++ ((wTrace (qr 0) Y (Ir 0) (V 0) (M 0)) ++ ((wTrace (qr 1) Y (Ir 1) (V 1) (M 1)) ++ (wTrace (qr 2) Y (Ir 2) (V 2) (M 2)))))))))))) := by
  obtain ⟨I1, A1, B1, rfl, b1, b2, b3, z, rfl, b4⟩ := h7
  obtain ⟨A2, rfl, c1, c2, y, rfl, c3⟩ := h8
  exact prZ (R_ta (R_p R ⟨b1, b2, b3⟩) c1 c2) (shIs_u b4 (shIs_q (R_q R) c3)) pE_plan

theorem pr_spare (R : (REL K It L Jd Nd J N Js Ns Jk Nk Ih Ah Ip Ap Bp Ir V M I A F Dd)) {x y : Int} {r7 r8 : Option Value} {w7 w8 : va_W} (h7 : (fun r9 w9 => ∃ (I1 : Nat → Int) (A1 B1 : Nat → Nat → Int), w9 = ((wTop q Y qt qd qn qs qk qh qp qr K) ++ ((wNet qn Y J N) ++ (wPlan qp Y I1 A1 B1))) ∧ smI I1 ∧ smA A1 ∧ okB B1 ∧ ∃ z : Int, r9 = some (.int (iI z)) ∧ spIs J N x y z) r7 w7) (h8 : (fun r9 w9 => ∃ A1 : Nat → Nat → Int, w9 = wMod qm Y I A1 F Dd ∧ smA A1 ∧ kpA A A1 ∧ ∃ z : Int, r9 = some (.int (iI z)) ∧ spIs (mJ I A) (mN A) x y z) r8 w8) : prR q Y qt qd qn qs qk qh qp qr qm r7 r8 (w8 ++ (w7 ++ ((wText qt Y It L) ++ ((wNet qd Y Jd Nd) ++ ((wNet qs Y Js Ns) ++ ((wNet (qk 0) Y (Jk 0) (Nk 0)) ++ ((wNet (qk 1) Y (Jk 1) (Nk 1)) ++ ((wHist qh Y Ih Ah) ++ ((wTrace (qr 0) Y (Ir 0) (V 0) (M 0)) ++ ((wTrace (qr 1) Y (Ir 1) (V 1) (M 1)) ++ (wTrace (qr 2) Y (Ir 2) (V 2) (M 2)))))))))))) := by
  obtain ⟨I1, A1, B1, rfl, b1, b2, b3, z, rfl, b4⟩ := h7
  obtain ⟨A2, rfl, c1, c2, y, rfl, c3⟩ := h8
  exact prZ (R_ta (R_p R ⟨b1, b2, b3⟩) c1 c2) (spIs_u R.2.1.2.2.1 b4 (spIs_q (R_q R) c3)) pE_plan

end
