theorem am_kc0 : (am_PT.getD 0 []).all (fun B => am_ckL am_PP am_YY 0 B.2) = true := by decide +kernel
theorem am_ke0 : am_ent am_PP am_YY 0 = true := by decide +kernel
theorem am_kc1 : (am_PT.getD 1 []).all (fun B => am_ckL am_PP am_YY 1 B.2) = true := by decide +kernel
theorem am_ke1 : am_ent am_PP am_YY 1 = true := by decide +kernel
theorem am_kc2 : (am_PT.getD 2 []).all (fun B => am_ckL am_PP am_YY 2 B.2) = true := by decide +kernel
theorem am_ke2 : am_ent am_PP am_YY 2 = true := by decide +kernel
theorem am_kc3 : (am_PT.getD 3 []).all (fun B => am_ckL am_PP am_YY 3 B.2) = true := by decide +kernel
theorem am_ke3 : am_ent am_PP am_YY 3 = true := by decide +kernel
theorem am_kc4 : (am_PT.getD 4 []).all (fun B => am_ckL am_PP am_YY 4 B.2) = true := by decide +kernel
theorem am_ke4 : am_ent am_PP am_YY 4 = true := by decide +kernel
theorem am_kc5 : (am_PT.getD 5 []).all (fun B => am_ckL am_PP am_YY 5 B.2) = true := by decide +kernel
theorem am_ke5 : am_ent am_PP am_YY 5 = true := by decide +kernel
theorem am_kc6 : (am_PT.getD 6 []).all (fun B => am_ckL am_PP am_YY 6 B.2) = true := by decide +kernel
theorem am_ke6 : am_ent am_PP am_YY 6 = true := by decide +kernel
theorem am_kc7 : (am_PT.getD 7 []).all (fun B => am_ckL am_PP am_YY 7 B.2) = true := by decide +kernel
theorem am_ke7 : am_ent am_PP am_YY 7 = true := by decide +kernel
theorem am_kc8 : (am_PT.getD 8 []).all (fun B => am_ckL am_PP am_YY 8 B.2) = true := by decide +kernel
theorem am_ke8 : am_ent am_PP am_YY 8 = true := by decide +kernel
theorem am_kc9 : (am_PT.getD 9 []).all (fun B => am_ckL am_PP am_YY 9 B.2) = true := by decide +kernel
theorem am_ke9 : am_ent am_PP am_YY 9 = true := by decide +kernel
theorem am_kc10 : (am_PT.getD 10 []).all (fun B => am_ckL am_PP am_YY 10 B.2) = true := by decide +kernel
theorem am_ke10 : am_ent am_PP am_YY 10 = true := by decide +kernel
theorem am_kc11 : (am_PT.getD 11 []).all (fun B => am_ckL am_PP am_YY 11 B.2) = true := by decide +kernel
theorem am_ke11 : am_ent am_PP am_YY 11 = true := by decide +kernel
theorem am_kc12 : (am_PT.getD 12 []).all (fun B => am_ckL am_PP am_YY 12 B.2) = true := by decide +kernel
theorem am_ke12 : am_ent am_PP am_YY 12 = true := by decide +kernel
theorem am_kc13 : (am_PT.getD 13 []).all (fun B => am_ckL am_PP am_YY 13 B.2) = true := by decide +kernel
theorem am_ke13 : am_ent am_PP am_YY 13 = true := by decide +kernel
theorem am_kc14 : (am_PT.getD 14 []).all (fun B => am_ckL am_PP am_YY 14 B.2) = true := by decide +kernel
theorem am_ke14 : am_ent am_PP am_YY 14 = true := by decide +kernel
theorem am_kc15 : (am_PT.getD 15 []).all (fun B => am_ckL am_PP am_YY 15 B.2) = true := by decide +kernel
theorem am_ke15 : am_ent am_PP am_YY 15 = true := by decide +kernel
theorem am_kc16 : (am_PT.getD 16 []).all (fun B => am_ckL am_PP am_YY 16 B.2) = true := by decide +kernel
theorem am_ke16 : am_ent am_PP am_YY 16 = true := by decide +kernel
theorem am_kc17 : (am_PT.getD 17 []).all (fun B => am_ckL am_PP am_YY 17 B.2) = true := by decide +kernel
theorem am_ke17 : am_ent am_PP am_YY 17 = true := by decide +kernel
theorem am_kc18 : (am_PT.getD 18 []).all (fun B => am_ckL am_PP am_YY 18 B.2) = true := by decide +kernel
theorem am_ke18 : am_ent am_PP am_YY 18 = true := by decide +kernel
theorem am_kc19 : (am_PT.getD 19 []).all (fun B => am_ckL am_PP am_YY 19 B.2) = true := by decide +kernel
theorem am_ke19 : am_ent am_PP am_YY 19 = true := by decide +kernel
theorem am_kc20 : (am_PT.getD 20 []).all (fun B => am_ckL am_PP am_YY 20 B.2) = true := by decide +kernel
theorem am_ke20 : am_ent am_PP am_YY 20 = true := by decide +kernel
theorem am_kc21 : (am_PT.getD 21 []).all (fun B => am_ckL am_PP am_YY 21 B.2) = true := by decide +kernel
theorem am_ke21 : am_ent am_PP am_YY 21 = true := by decide +kernel
theorem am_kc22 : (am_PT.getD 22 []).all (fun B => am_ckL am_PP am_YY 22 B.2) = true := by decide +kernel
theorem am_ke22 : am_ent am_PP am_YY 22 = true := by decide +kernel
theorem am_kc23 : (am_PT.getD 23 []).all (fun B => am_ckL am_PP am_YY 23 B.2) = true := by decide +kernel
theorem am_ke23 : am_ent am_PP am_YY 23 = true := by decide +kernel
theorem am_kc24 : (am_PT.getD 24 []).all (fun B => am_ckL am_PP am_YY 24 B.2) = true := by decide +kernel
theorem am_ke24 : am_ent am_PP am_YY 24 = true := by decide +kernel
theorem am_kc25 : (am_PT.getD 25 []).all (fun B => am_ckL am_PP am_YY 25 B.2) = true := by decide +kernel
theorem am_ke25 : am_ent am_PP am_YY 25 = true := by decide +kernel
theorem am_kc26 : (am_PT.getD 26 []).all (fun B => am_ckL am_PP am_YY 26 B.2) = true := by decide +kernel
theorem am_ke26 : am_ent am_PP am_YY 26 = true := by decide +kernel
theorem am_kc27 : (am_PT.getD 27 []).all (fun B => am_ckL am_PP am_YY 27 B.2) = true := by decide +kernel
theorem am_ke27 : am_ent am_PP am_YY 27 = true := by decide +kernel
