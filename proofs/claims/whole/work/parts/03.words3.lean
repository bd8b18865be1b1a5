theorem in_SVS : ∀ w ∈ u_ws R_SVS F_SVS 9, w ∈ WA := by decide +kernel
theorem in_Hasher : ∀ w ∈ u_ws R_Hasher F_Hasher 5, w ∈ WA := by decide +kernel
theorem in_Message : ∀ w ∈ u_ws R_Message F_Message 2, w ∈ WA := by decide +kernel
theorem in_SecretKey : ∀ w ∈ u_ws R_SecretKey F_SecretKey 9, w ∈ WA := by decide +kernel
theorem in_Signing : ∀ w ∈ u_ws R_Signing F_Signing 9, w ∈ WA := by decide +kernel
theorem in_Transcript : ∀ w ∈ u_ws R_Transcript F_Transcript 3, w ∈ WA := by decide +kernel
theorem in_Verifying : ∀ w ∈ u_ws R_Verifying F_Verifying 9, w ∈ WA := by decide +kernel
theorem in_Md : ∀ w ∈ u_ws R_Md F_Md 35, w ∈ WA := by decide +kernel
