theorem am_kc84 : (am_PT.getD 84 []).all (fun B => am_ckL am_PP am_YY 84 B.2) = true := by decide +kernel
theorem am_ke84 : am_ent am_PP am_YY 84 = true := by decide +kernel
theorem am_kc85 : (am_PT.getD 85 []).all (fun B => am_ckL am_PP am_YY 85 B.2) = true := by decide +kernel
theorem am_ke85 : am_ent am_PP am_YY 85 = true := by decide +kernel
theorem am_kc86 : (am_PT.getD 86 []).all (fun B => am_ckL am_PP am_YY 86 B.2) = true := by decide +kernel
theorem am_ke86 : am_ent am_PP am_YY 86 = true := by decide +kernel
theorem am_kc87 : (am_PT.getD 87 []).all (fun B => am_ckL am_PP am_YY 87 B.2) = true := by decide +kernel
theorem am_ke87 : am_ent am_PP am_YY 87 = true := by decide +kernel
theorem am_kc88 : (am_PT.getD 88 []).all (fun B => am_ckL am_PP am_YY 88 B.2) = true := by decide +kernel
theorem am_ke88 : am_ent am_PP am_YY 88 = true := by decide +kernel
theorem am_kc89 : (am_PT.getD 89 []).all (fun B => am_ckL am_PP am_YY 89 B.2) = true := by decide +kernel
theorem am_ke89 : am_ent am_PP am_YY 89 = true := by decide +kernel
theorem am_kc90 : (am_PT.getD 90 []).all (fun B => am_ckL am_PP am_YY 90 B.2) = true := by decide +kernel
theorem am_ke90 : am_ent am_PP am_YY 90 = true := by decide +kernel
theorem am_kc91 : (am_PT.getD 91 []).all (fun B => am_ckL am_PP am_YY 91 B.2) = true := by decide +kernel
theorem am_ke91 : am_ent am_PP am_YY 91 = true := by decide +kernel
theorem am_kc92 : (am_PT.getD 92 []).all (fun B => am_ckL am_PP am_YY 92 B.2) = true := by decide +kernel
theorem am_ke92 : am_ent am_PP am_YY 92 = true := by decide +kernel
theorem am_kc93 : (am_PT.getD 93 []).all (fun B => am_ckL am_PP am_YY 93 B.2) = true := by decide +kernel
theorem am_ke93 : am_ent am_PP am_YY 93 = true := by decide +kernel
theorem am_kc94 : (am_PT.getD 94 []).all (fun B => am_ckL am_PP am_YY 94 B.2) = true := by decide +kernel
theorem am_ke94 : am_ent am_PP am_YY 94 = true := by decide +kernel
theorem am_kc95 : (am_PT.getD 95 []).all (fun B => am_ckL am_PP am_YY 95 B.2) = true := by decide +kernel
theorem am_ke95 : am_ent am_PP am_YY 95 = true := by decide +kernel
theorem am_kc96 : (am_PT.getD 96 []).all (fun B => am_ckL am_PP am_YY 96 B.2) = true := by decide +kernel
theorem am_ke96 : am_ent am_PP am_YY 96 = true := by decide +kernel
theorem am_kc97 : (am_PT.getD 97 []).all (fun B => am_ckL am_PP am_YY 97 B.2) = true := by decide +kernel
theorem am_ke97 : am_ent am_PP am_YY 97 = true := by decide +kernel
theorem am_kc98 : (am_PT.getD 98 []).all (fun B => am_ckL am_PP am_YY 98 B.2) = true := by decide +kernel
theorem am_ke98 : am_ent am_PP am_YY 98 = true := by decide +kernel
theorem am_kc99 : (am_PT.getD 99 []).all (fun B => am_ckL am_PP am_YY 99 B.2) = true := by decide +kernel
theorem am_ke99 : am_ent am_PP am_YY 99 = true := by decide +kernel
theorem am_kc100 : (am_PT.getD 100 []).all (fun B => am_ckL am_PP am_YY 100 B.2) = true := by decide +kernel
theorem am_ke100 : am_ent am_PP am_YY 100 = true := by decide +kernel
theorem am_kc101 : (am_PT.getD 101 []).all (fun B => am_ckL am_PP am_YY 101 B.2) = true := by decide +kernel
theorem am_ke101 : am_ent am_PP am_YY 101 = true := by decide +kernel
theorem am_kc102 : (am_PT.getD 102 []).all (fun B => am_ckL am_PP am_YY 102 B.2) = true := by decide +kernel
theorem am_ke102 : am_ent am_PP am_YY 102 = true := by decide +kernel
theorem am_kc103 : (am_PT.getD 103 []).all (fun B => am_ckL am_PP am_YY 103 B.2) = true := by decide +kernel
theorem am_ke103 : am_ent am_PP am_YY 103 = true := by decide +kernel
theorem am_kc104 : (am_PT.getD 104 []).all (fun B => am_ckL am_PP am_YY 104 B.2) = true := by decide +kernel
theorem am_ke104 : am_ent am_PP am_YY 104 = true := by decide +kernel
theorem am_kc105 : (am_PT.getD 105 []).all (fun B => am_ckL am_PP am_YY 105 B.2) = true := by decide +kernel
theorem am_ke105 : am_ent am_PP am_YY 105 = true := by decide +kernel
theorem am_kc106 : (am_PT.getD 106 []).all (fun B => am_ckL am_PP am_YY 106 B.2) = true := by decide +kernel
theorem am_ke106 : am_ent am_PP am_YY 106 = true := by decide +kernel
theorem am_kc107 : (am_PT.getD 107 []).all (fun B => am_ckL am_PP am_YY 107 B.2) = true := by decide +kernel
theorem am_ke107 : am_ent am_PP am_YY 107 = true := by decide +kernel
theorem am_kc108 : (am_PT.getD 108 []).all (fun B => am_ckL am_PP am_YY 108 B.2) = true := by decide +kernel
theorem am_ke108 : am_ent am_PP am_YY 108 = true := by decide +kernel
theorem am_kc109 : (am_PT.getD 109 []).all (fun B => am_ckL am_PP am_YY 109 B.2) = true := by decide +kernel
theorem am_ke109 : am_ent am_PP am_YY 109 = true := by decide +kernel
theorem am_kc110 : (am_PT.getD 110 []).all (fun B => am_ckL am_PP am_YY 110 B.2) = true := by decide +kernel
theorem am_ke110 : am_ent am_PP am_YY 110 = true := by decide +kernel
theorem am_kc111 : (am_PT.getD 111 []).all (fun B => am_ckL am_PP am_YY 111 B.2) = true := by decide +kernel
theorem am_ke111 : am_ent am_PP am_YY 111 = true := by decide +kernel
