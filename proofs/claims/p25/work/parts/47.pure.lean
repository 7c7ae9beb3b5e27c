theorem xw_c (X1 N S2 Hh M hs T0 T1 : va_W) : ((X1 ++ (N ++ (S2 ++ (Hh ++ M)))) ++ ((hs ++ T0) ++ T1)).Perm ((X1 ++ (N ++ (M ++ (Hh ++ S2)))) ++ (hs ++ (T0 ++ T1))) := by
  simp only [List.append_assoc]
  exact ((List.Perm.append_left _ (List.Perm.append_left _ (List.Perm.append_left _ (xg_sw _ _ _)))).trans ((List.Perm.append_left _ (List.Perm.append_left _ (xg_sw _ _ _))).trans (List.Perm.append_left _ (List.Perm.append_left _ (List.Perm.append_left _ (xg_sw _ _ _))))))
