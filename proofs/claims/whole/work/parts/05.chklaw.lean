theorem am_all_cut {α : Type} (f : α → Bool) (n : Nat) (l : List α) (h1 : (l.take n).all f = true) (h2 : (l.drop n).all f = true) : l.all f = true := by
  rw [← List.take_append_drop n l, List.all_append, h1, h2]; rfl
set_option maxRecDepth 100000 in
theorem ck_Law_0 : ((cd_Law_law.drop 0).take 10).all (fun b => am_okb 194 b.1 b.2.1 b.2.2) = true := by decide +kernel
set_option maxRecDepth 100000 in
theorem ck_Law_10 : ((cd_Law_law.drop 10).take 10).all (fun b => am_okb 194 b.1 b.2.1 b.2.2) = true := by decide +kernel
set_option maxRecDepth 100000 in
theorem ck_Law_20 : ((cd_Law_law.drop 20).take 10).all (fun b => am_okb 194 b.1 b.2.1 b.2.2) = true := by decide +kernel
set_option maxRecDepth 100000 in
theorem ck_Law_30 : ((cd_Law_law.drop 30).take 10).all (fun b => am_okb 194 b.1 b.2.1 b.2.2) = true := by decide +kernel
set_option maxRecDepth 100000 in
theorem ck_Law_40 : ((cd_Law_law.drop 40).take 10).all (fun b => am_okb 194 b.1 b.2.1 b.2.2) = true := by decide +kernel
set_option maxRecDepth 100000 in
theorem ck_Law_50 : ((cd_Law_law.drop 50).take 10).all (fun b => am_okb 194 b.1 b.2.1 b.2.2) = true := by decide +kernel
set_option maxRecDepth 100000 in
theorem ck_Law_60 : ((cd_Law_law.drop 60).take 10).all (fun b => am_okb 194 b.1 b.2.1 b.2.2) = true := by decide +kernel
set_option maxRecDepth 100000 in
theorem ck_Law_70 : ((cd_Law_law.drop 70).take 10).all (fun b => am_okb 194 b.1 b.2.1 b.2.2) = true := by decide +kernel
theorem ck_Law_end : (cd_Law_law.drop 80).all (fun b => am_okb 194 b.1 b.2.1 b.2.2) = true := by decide +kernel
theorem ck_Lawd_70 : (cd_Law_law.drop 70).all (fun b => am_okb 194 b.1 b.2.1 b.2.2) = true := am_all_cut _ 10 _ ck_Law_70 (by rw [List.drop_drop]; exact ck_Law_end)
theorem ck_Lawd_60 : (cd_Law_law.drop 60).all (fun b => am_okb 194 b.1 b.2.1 b.2.2) = true := am_all_cut _ 10 _ ck_Law_60 (by rw [List.drop_drop]; exact ck_Lawd_70)
theorem ck_Lawd_50 : (cd_Law_law.drop 50).all (fun b => am_okb 194 b.1 b.2.1 b.2.2) = true := am_all_cut _ 10 _ ck_Law_50 (by rw [List.drop_drop]; exact ck_Lawd_60)
theorem ck_Lawd_40 : (cd_Law_law.drop 40).all (fun b => am_okb 194 b.1 b.2.1 b.2.2) = true := am_all_cut _ 10 _ ck_Law_40 (by rw [List.drop_drop]; exact ck_Lawd_50)
theorem ck_Lawd_30 : (cd_Law_law.drop 30).all (fun b => am_okb 194 b.1 b.2.1 b.2.2) = true := am_all_cut _ 10 _ ck_Law_30 (by rw [List.drop_drop]; exact ck_Lawd_40)
theorem ck_Lawd_20 : (cd_Law_law.drop 20).all (fun b => am_okb 194 b.1 b.2.1 b.2.2) = true := am_all_cut _ 10 _ ck_Law_20 (by rw [List.drop_drop]; exact ck_Lawd_30)
theorem ck_Lawd_10 : (cd_Law_law.drop 10).all (fun b => am_okb 194 b.1 b.2.1 b.2.2) = true := am_all_cut _ 10 _ ck_Law_10 (by rw [List.drop_drop]; exact ck_Lawd_20)
theorem ck_Lawd_0 : (cd_Law_law.drop 0).all (fun b => am_okb 194 b.1 b.2.1 b.2.2) = true := am_all_cut _ 10 _ ck_Law_0 (by rw [List.drop_drop]; exact ck_Lawd_10)
theorem ck_Law_law : cd_Law_law.all (fun b => am_okb 194 b.1 b.2.1 b.2.2) = true := ck_Lawd_0
