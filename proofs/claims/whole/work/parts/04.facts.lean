theorem xl_ES : ∀ w ∈ u_ws Rn_ES Tn_ES 6, w ∈ w_all := fun w h => by
  have h : w ∈ [Cond.laysFinal Rn_ES Rn_ES "coordinators" "[LEpochStore$Coordinator;", Cond.laysFinal Rn_ES Rn_ES "logs" "[LEpochStore$Log;", Cond.laysFinal Rn_ES Rn_ES "storages" "[LEpochStore$Storage;", Cond.laysFinal Rn_ES Rn_ES "clients" "[LEpochStore$Client;", Cond.laysFinal Rn_ES Rn_ES "masters" "[LEpochStore$Master;", Cond.laysFinal Rn_ES Rn_ES "line" "LEpochStore$Line;"] := h
  simp only [List.mem_cons, List.not_mem_nil, or_false] at h
  rcases h with rfl | rfl | rfl | rfl | rfl | rfl
  · exact m_800
  · exact m_801
  · exact m_802
  · exact m_803
  · exact m_804
  · exact m_805
theorem xt_ES : ∀ k, k < 6 → parseFieldDescriptor (Tn_ES k).2.2.1 = some (tn_ES k) := by decide +kernel
theorem xn_ES : ∀ a, a < 6 → ∀ b, b < 6 → a ≠ b → (Tn_ES a).2.1 ≠ (Tn_ES b).2.1 := by decide +kernel
theorem xd_ES : ∀ k, k < 6 → (Tn_ES k).1 = Rn_ES := by decide +kernel
theorem xl_Coordinator : ∀ w ∈ u_ws Rn_Coordinator Tn_Coordinator 2, w ∈ w_all := fun w h => by
  have h : w ∈ [Cond.lays Rn_Coordinator Rn_Coordinator "up" "Z", Cond.lays Rn_Coordinator Rn_Coordinator "epoch" "I"] := h
  simp only [List.mem_cons, List.not_mem_nil, or_false] at h
  rcases h with rfl | rfl
  · exact m_807
  · exact m_808
theorem xt_Coordinator : ∀ k, k < 2 → parseFieldDescriptor (Tn_Coordinator k).2.2.1 = some (tn_Coordinator k) := by decide +kernel
theorem xn_Coordinator : ∀ a, a < 2 → ∀ b, b < 2 → a ≠ b → (Tn_Coordinator a).2.1 ≠ (Tn_Coordinator b).2.1 := by decide +kernel
theorem xd_Coordinator : ∀ k, k < 2 → (Tn_Coordinator k).1 = Rn_Coordinator := by decide +kernel
theorem xl_Writes : ∀ w ∈ u_ws Rn_Writes Tn_Writes 2, w ∈ w_all := fun w h => by
  have h : w ∈ [Cond.lays Rn_Writes Rn_Writes "keys" "I", Cond.laysFinal Rn_Writes Rn_Writes "values" "[I"] := h
  simp only [List.mem_cons, List.not_mem_nil, or_false] at h
  rcases h with rfl | rfl
  · exact m_809
  · exact m_810
theorem xt_Writes : ∀ k, k < 2 → parseFieldDescriptor (Tn_Writes k).2.2.1 = some (tn_Writes k) := by decide +kernel
theorem xn_Writes : ∀ a, a < 2 → ∀ b, b < 2 → a ≠ b → (Tn_Writes a).2.1 ≠ (Tn_Writes b).2.1 := by decide +kernel
theorem xd_Writes : ∀ k, k < 2 → (Tn_Writes k).1 = Rn_Writes := by decide +kernel
theorem xl_Entry : ∀ w ∈ u_ws Rn_Entry Tn_Entry 3, w ∈ w_all := fun w h => by
  have h : w ∈ [Cond.laysFinal Rn_Entry Rn_Entry "version" "I", Cond.laysFinal Rn_Entry Rn_Entry "before" "I", Cond.laysFinal Rn_Entry Rn_Entry "writes" "LEpochStore$Writes;"] := h
  simp only [List.mem_cons, List.not_mem_nil, or_false] at h
  rcases h with rfl | rfl | rfl
  · exact m_811
  · exact m_812
  · exact m_813
theorem xt_Entry : ∀ k, k < 3 → parseFieldDescriptor (Tn_Entry k).2.2.1 = some (tn_Entry k) := by decide +kernel
theorem xn_Entry : ∀ a, a < 3 → ∀ b, b < 3 → a ≠ b → (Tn_Entry a).2.1 ≠ (Tn_Entry b).2.1 := by decide +kernel
theorem xd_Entry : ∀ k, k < 3 → (Tn_Entry k).1 = Rn_Entry := by decide +kernel
theorem xl_Message : ∀ w ∈ u_ws Rn_Message Tn_Message 10, w ∈ w_all := fun w h => by
  have h : w ∈ [Cond.lays Rn_Message Rn_Message "type" "I", Cond.lays Rn_Message Rn_Message "number" "I", Cond.lays Rn_Message Rn_Message "epoch" "I", Cond.lays Rn_Message Rn_Message "version" "I", Cond.lays Rn_Message Rn_Message "transaction" "I", Cond.lays Rn_Message Rn_Message "question" "I", Cond.lays Rn_Message Rn_Message "result" "I", Cond.lays Rn_Message Rn_Message "noted" "I", Cond.lays Rn_Message Rn_Message "writes" "LEpochStore$Writes;", Cond.lays Rn_Message Rn_Message "entry" "LEpochStore$Entry;"] := h
  simp only [List.mem_cons, List.not_mem_nil, or_false] at h
  rcases h with rfl | rfl | rfl | rfl | rfl | rfl | rfl | rfl | rfl | rfl
  · exact m_814
  · exact m_815
  · exact m_816
  · exact m_817
  · exact m_818
  · exact m_819
  · exact m_820
  · exact m_821
  · exact m_822
  · exact m_823
theorem xt_Message : ∀ k, k < 10 → parseFieldDescriptor (Tn_Message k).2.2.1 = some (tn_Message k) := by decide +kernel
theorem xn_Message : ∀ a, a < 10 → ∀ b, b < 10 → a ≠ b → (Tn_Message a).2.1 ≠ (Tn_Message b).2.1 := by decide +kernel
theorem xd_Message : ∀ k, k < 10 → (Tn_Message k).1 = Rn_Message := by decide +kernel
theorem xl_Line : ∀ w ∈ u_ws Rn_Line Tn_Line 3, w ∈ w_all := fun w h => by
  have h : w ∈ [Cond.laysFinal Rn_Line Rn_Line "rows" "[LEpochStore$Message;", Cond.laysFinal Rn_Line Rn_Line "lost" "LEpochStore$Message;", Cond.lays Rn_Line Rn_Line "count" "I"] := h
  simp only [List.mem_cons, List.not_mem_nil, or_false] at h
  rcases h with rfl | rfl | rfl
  · exact m_824
  · exact m_825
  · exact m_826
theorem xt_Line : ∀ k, k < 3 → parseFieldDescriptor (Tn_Line k).2.2.1 = some (tn_Line k) := by decide +kernel
theorem xn_Line : ∀ a, a < 3 → ∀ b, b < 3 → a ≠ b → (Tn_Line a).2.1 ≠ (Tn_Line b).2.1 := by decide +kernel
theorem xd_Line : ∀ k, k < 3 → (Tn_Line k).1 = Rn_Line := by decide +kernel
theorem xl_Question : ∀ w ∈ u_ws Rn_Question Tn_Question 4, w ∈ w_all := fun w h => by
  have h : w ∈ [Cond.laysFinal Rn_Question Rn_Question "number" "I", Cond.laysFinal Rn_Question Rn_Question "client" "I", Cond.laysFinal Rn_Question Rn_Question "transaction" "I", Cond.lays Rn_Question Rn_Question "confirmed" "I"] := h
  simp only [List.mem_cons, List.not_mem_nil, or_false] at h
  rcases h with rfl | rfl | rfl | rfl
  · exact m_827
  · exact m_828
  · exact m_829
  · exact m_830
theorem xt_Question : ∀ k, k < 4 → parseFieldDescriptor (Tn_Question k).2.2.1 = some (tn_Question k) := by decide +kernel
theorem xn_Question : ∀ a, a < 4 → ∀ b, b < 4 → a ≠ b → (Tn_Question a).2.1 ≠ (Tn_Question b).2.1 := by decide +kernel
theorem xd_Question : ∀ k, k < 4 → (Tn_Question k).1 = Rn_Question := by decide +kernel
theorem xl_OnWay : ∀ w ∈ u_ws Rn_OnWay Tn_OnWay 4, w ∈ w_all := fun w h => by
  have h : w ∈ [Cond.laysFinal Rn_OnWay Rn_OnWay "entry" "LEpochStore$Entry;", Cond.laysFinal Rn_OnWay Rn_OnWay "client" "I", Cond.laysFinal Rn_OnWay Rn_OnWay "transaction" "I", Cond.lays Rn_OnWay Rn_OnWay "acknowledged" "I"] := h
  simp only [List.mem_cons, List.not_mem_nil, or_false] at h
  rcases h with rfl | rfl | rfl | rfl
  · exact m_831
  · exact m_832
  · exact m_833
  · exact m_834
theorem xt_OnWay : ∀ k, k < 4 → parseFieldDescriptor (Tn_OnWay k).2.2.1 = some (tn_OnWay k) := by decide +kernel
theorem xn_OnWay : ∀ a, a < 4 → ∀ b, b < 4 → a ≠ b → (Tn_OnWay a).2.1 ≠ (Tn_OnWay b).2.1 := by decide +kernel
theorem xd_OnWay : ∀ k, k < 4 → (Tn_OnWay k).1 = Rn_OnWay := by decide +kernel
theorem xl_Master : ∀ w ∈ u_ws Rn_Master Tn_Master 12, w ∈ w_all := fun w h => by
  have h : w ∈ [Cond.laysFinal Rn_Master Rn_Master "epoch" "I", Cond.laysFinal Rn_Master Rn_Master "members" "I", Cond.laysFinal Rn_Master Rn_Master "start" "I", Cond.lays Rn_Master Rn_Master "last" "I", Cond.lays Rn_Master Rn_Master "pushed" "I", Cond.lays Rn_Master Rn_Master "committed" "I", Cond.laysFinal Rn_Master Rn_Master "latestWrite" "[I", Cond.laysFinal Rn_Master Rn_Master "questions" "[LEpochStore$Question;", Cond.lays Rn_Master Rn_Master "questionCount" "I", Cond.lays Rn_Master Rn_Master "questionsEver" "I", Cond.laysFinal Rn_Master Rn_Master "onWay" "[LEpochStore$OnWay;", Cond.lays Rn_Master Rn_Master "onWayCount" "I"] := h
  simp only [List.mem_cons, List.not_mem_nil, or_false] at h
  rcases h with rfl | rfl | rfl | rfl | rfl | rfl | rfl | rfl | rfl | rfl | rfl | rfl
  · exact m_835
  · exact m_836
  · exact m_837
  · exact m_838
  · exact m_839
  · exact m_840
  · exact m_841
  · exact m_842
  · exact m_843
  · exact m_844
  · exact m_845
  · exact m_846
theorem xt_Master : ∀ k, k < 12 → parseFieldDescriptor (Tn_Master k).2.2.1 = some (tn_Master k) := by decide +kernel
theorem xn_Master : ∀ a, a < 12 → ∀ b, b < 12 → a ≠ b → (Tn_Master a).2.1 ≠ (Tn_Master b).2.1 := by decide +kernel
theorem xd_Master : ∀ k, k < 12 → (Tn_Master k).1 = Rn_Master := by decide +kernel
theorem xl_Log : ∀ w ∈ u_ws Rn_Log Tn_Log 7, w ∈ w_all := fun w h => by
  have h : w ∈ [Cond.laysFinal Rn_Log Rn_Log "number" "I", Cond.lays Rn_Log Rn_Log "up" "Z", Cond.lays Rn_Log Rn_Log "epoch" "I", Cond.lays Rn_Log Rn_Log "end" "I", Cond.laysFinal Rn_Log Rn_Log "bases" "[I", Cond.laysFinal Rn_Log Rn_Log "records" "[LEpochStore$Entry;", Cond.lays Rn_Log Rn_Log "count" "I"] := h
  simp only [List.mem_cons, List.not_mem_nil, or_false] at h
  rcases h with rfl | rfl | rfl | rfl | rfl | rfl | rfl
  · exact m_847
  · exact m_848
  · exact m_849
  · exact m_850
  · exact m_851
  · exact m_852
  · exact m_853
theorem xt_Log : ∀ k, k < 7 → parseFieldDescriptor (Tn_Log k).2.2.1 = some (tn_Log k) := by decide +kernel
theorem xn_Log : ∀ a, a < 7 → ∀ b, b < 7 → a ≠ b → (Tn_Log a).2.1 ≠ (Tn_Log b).2.1 := by decide +kernel
theorem xd_Log : ∀ k, k < 7 → (Tn_Log k).1 = Rn_Log := by decide +kernel
theorem xl_Storage : ∀ w ∈ u_ws Rn_Storage Tn_Storage 6, w ∈ w_all := fun w h => by
  have h : w ∈ [Cond.laysFinal Rn_Storage Rn_Storage "ownKeys" "I", Cond.lays Rn_Storage Rn_Storage "up" "Z", Cond.lays Rn_Storage Rn_Storage "epoch" "I", Cond.lays Rn_Storage Rn_Storage "at" "I", Cond.laysFinal Rn_Storage Rn_Storage "records" "[LEpochStore$Entry;", Cond.lays Rn_Storage Rn_Storage "count" "I"] := h
  simp only [List.mem_cons, List.not_mem_nil, or_false] at h
  rcases h with rfl | rfl | rfl | rfl | rfl | rfl
  · exact m_854
  · exact m_855
  · exact m_856
  · exact m_857
  · exact m_858
  · exact m_859
theorem xt_Storage : ∀ k, k < 6 → parseFieldDescriptor (Tn_Storage k).2.2.1 = some (tn_Storage k) := by decide +kernel
theorem xn_Storage : ∀ a, a < 6 → ∀ b, b < 6 → a ≠ b → (Tn_Storage a).2.1 ≠ (Tn_Storage b).2.1 := by decide +kernel
theorem xd_Storage : ∀ k, k < 6 → (Tn_Storage k).1 = Rn_Storage := by decide +kernel
theorem xl_Client : ∀ w ∈ u_ws Rn_Client Tn_Client 9, w ∈ w_all := fun w h => by
  have h : w ∈ [Cond.laysFinal Rn_Client Rn_Client "number" "I", Cond.lays Rn_Client Rn_Client "knownEpoch" "I", Cond.lays Rn_Client Rn_Client "transaction" "I", Cond.lays Rn_Client Rn_Client "state" "I", Cond.lays Rn_Client Rn_Client "epoch" "I", Cond.lays Rn_Client Rn_Client "readVersion" "I", Cond.lays Rn_Client Rn_Client "commitVersion" "I", Cond.lays Rn_Client Rn_Client "noted" "I", Cond.lays Rn_Client Rn_Client "writes" "LEpochStore$Writes;"] := h
  simp only [List.mem_cons, List.not_mem_nil, or_false] at h
  rcases h with rfl | rfl | rfl | rfl | rfl | rfl | rfl | rfl | rfl
  · exact m_860
  · exact m_861
  · exact m_862
  · exact m_863
  · exact m_864
  · exact m_865
  · exact m_866
  · exact m_867
  · exact m_868
theorem xt_Client : ∀ k, k < 9 → parseFieldDescriptor (Tn_Client k).2.2.1 = some (tn_Client k) := by decide +kernel
theorem xn_Client : ∀ a, a < 9 → ∀ b, b < 9 → a ≠ b → (Tn_Client a).2.1 ≠ (Tn_Client b).2.1 := by decide +kernel
theorem xd_Client : ∀ k, k < 9 → (Tn_Client k).1 = Rn_Client := by decide +kernel
theorem xl_EM : ∀ w ∈ u_ws Rn_EM Tn_EM 56, w ∈ w_all := fun w h => by
  have h : w ∈ [Cond.lays Rn_EM Rn_EM "known" "[I", Cond.lays Rn_EM Rn_EM "coordinatorUp" "[Z", Cond.lays Rn_EM Rn_EM "logEpoch" "[I", Cond.lays Rn_EM Rn_EM "logUp" "[Z", Cond.lays Rn_EM Rn_EM "logEnd" "[I", Cond.lays Rn_EM Rn_EM "logMany" "[I", Cond.lays Rn_EM Rn_EM "logVersion" "[I", Cond.lays Rn_EM Rn_EM "logMask" "[I", Cond.lays Rn_EM Rn_EM "logValue" "[I", Cond.lays Rn_EM Rn_EM "base" "[I", Cond.lays Rn_EM Rn_EM "storeEpoch" "[I", Cond.lays Rn_EM Rn_EM "storeUp" "[Z", Cond.lays Rn_EM Rn_EM "storeAt" "[I", Cond.lays Rn_EM Rn_EM "storeMany" "[I", Cond.lays Rn_EM Rn_EM "storeVersion" "[I", Cond.lays Rn_EM Rn_EM "storeMask" "[I", Cond.lays Rn_EM Rn_EM "storeValue" "[I", Cond.lays Rn_EM Rn_EM "there" "[Z", Cond.lays Rn_EM Rn_EM "logsOf" "[I", Cond.lays Rn_EM Rn_EM "startOf" "[I", Cond.lays Rn_EM Rn_EM "lastOf" "[I", Cond.lays Rn_EM Rn_EM "pushedOf" "[I", Cond.lays Rn_EM Rn_EM "doneOf" "[I", Cond.lays Rn_EM Rn_EM "latest" "[I", Cond.lays Rn_EM Rn_EM "asked" "[I", Cond.lays Rn_EM Rn_EM "questions" "[I", Cond.lays Rn_EM Rn_EM "questionNumber" "[I", Cond.lays Rn_EM Rn_EM "questionClient" "[I", Cond.lays Rn_EM Rn_EM "questionTurn" "[I", Cond.lays Rn_EM Rn_EM "questionHas" "[I", Cond.lays Rn_EM Rn_EM "ways" "[I", Cond.lays Rn_EM Rn_EM "wayVersion" "[I", Cond.lays Rn_EM Rn_EM "wayBefore" "[I", Cond.lays Rn_EM Rn_EM "wayMask" "[I", Cond.lays Rn_EM Rn_EM "wayValue" "[I", Cond.lays Rn_EM Rn_EM "wayHas" "[I", Cond.lays Rn_EM Rn_EM "wayClient" "[I", Cond.lays Rn_EM Rn_EM "wayTurn" "[I", Cond.lays Rn_EM Rn_EM "clientEpoch" "[I", Cond.lays Rn_EM Rn_EM "turn" "[I", Cond.lays Rn_EM Rn_EM "state" "[I", Cond.lays Rn_EM Rn_EM "readAt" "[I", Cond.lays Rn_EM Rn_EM "begunAt" "[I", Cond.lays Rn_EM Rn_EM "noted" "[I", Cond.lays Rn_EM Rn_EM "written" "[I", Cond.lays Rn_EM Rn_EM "value" "[I", Cond.lays Rn_EM Rn_EM "won" "[I", Cond.lays Rn_EM Rn_EM "lines" "I", Cond.lays Rn_EM Rn_EM "type" "[I", Cond.lays Rn_EM Rn_EM "who" "[I", Cond.lays Rn_EM Rn_EM "epoch" "[I", Cond.lays Rn_EM Rn_EM "version" "[I", Cond.lays Rn_EM Rn_EM "number" "[I", Cond.lays Rn_EM Rn_EM "other" "[I", Cond.lays Rn_EM Rn_EM "mask" "[I", Cond.lays Rn_EM Rn_EM "content" "[I"] := h
  simp only [List.mem_cons, List.not_mem_nil, or_false] at h
  rcases h with rfl | rfl | rfl | rfl | rfl | rfl | rfl | rfl | rfl | rfl | rfl | rfl | rfl | rfl | rfl | rfl | rfl | rfl | rfl | rfl | rfl | rfl | rfl | rfl | rfl | rfl | rfl | rfl | rfl | rfl | rfl | rfl | rfl | rfl | rfl | rfl | rfl | rfl | rfl | rfl | rfl | rfl | rfl | rfl | rfl | rfl | rfl | rfl | rfl | rfl | rfl | rfl | rfl | rfl | rfl | rfl
  · exact m_869
  · exact m_870
  · exact m_871
  · exact m_872
  · exact m_873
  · exact m_874
  · exact m_875
  · exact m_876
  · exact m_877
  · exact m_878
  · exact m_879
  · exact m_880
  · exact m_881
  · exact m_882
  · exact m_883
  · exact m_884
  · exact m_885
  · exact m_886
  · exact m_887
  · exact m_888
  · exact m_889
  · exact m_890
  · exact m_891
  · exact m_892
  · exact m_893
  · exact m_894
  · exact m_895
  · exact m_896
  · exact m_897
  · exact m_898
  · exact m_899
  · exact m_900
  · exact m_901
  · exact m_902
  · exact m_903
  · exact m_904
  · exact m_905
  · exact m_906
  · exact m_907
  · exact m_908
  · exact m_909
  · exact m_910
  · exact m_911
  · exact m_912
  · exact m_913
  · exact m_914
  · exact m_915
  · exact m_916
  · exact m_917
  · exact m_918
  · exact m_919
  · exact m_920
  · exact m_921
  · exact m_922
  · exact m_923
  · exact m_924
theorem xt_EM : ∀ k, k < 56 → parseFieldDescriptor (Tn_EM k).2.2.1 = some (tn_EM k) := by decide +kernel
theorem xn_EM : ∀ a, a < 56 → ∀ b, b < 56 → a ≠ b → (Tn_EM a).2.1 ≠ (Tn_EM b).2.1 := by decide +kernel
theorem xd_EM : ∀ k, k < 56 → (Tn_EM k).1 = Rn_EM := by decide +kernel
-- what a call must know of the name of its method
theorem ky_Message_init : y_Message_init.cls ≠ "java/lang/invoke/MethodHandle" ∧ y_Message_init.cls ≠ "java/lang/invoke/VarHandle" ∧ (parseMethodDescriptor y_Message_init.desc).map (fun d => d.parameters.length) = some 0 := by decide +kernel
theorem ky_Line_init : y_Line_init.cls ≠ "java/lang/invoke/MethodHandle" ∧ y_Line_init.cls ≠ "java/lang/invoke/VarHandle" ∧ (parseMethodDescriptor y_Line_init.desc).map (fun d => d.parameters.length) = some 0 := by decide +kernel
theorem ky_Coordinator_init : y_Coordinator_init.cls ≠ "java/lang/invoke/MethodHandle" ∧ y_Coordinator_init.cls ≠ "java/lang/invoke/VarHandle" ∧ (parseMethodDescriptor y_Coordinator_init.desc).map (fun d => d.parameters.length) = some 0 := by decide +kernel
theorem ky_Log_init : y_Log_init.cls ≠ "java/lang/invoke/MethodHandle" ∧ y_Log_init.cls ≠ "java/lang/invoke/VarHandle" ∧ (parseMethodDescriptor y_Log_init.desc).map (fun d => d.parameters.length) = some 1 := by decide +kernel
theorem ky_Storage_init : y_Storage_init.cls ≠ "java/lang/invoke/MethodHandle" ∧ y_Storage_init.cls ≠ "java/lang/invoke/VarHandle" ∧ (parseMethodDescriptor y_Storage_init.desc).map (fun d => d.parameters.length) = some 1 := by decide +kernel
theorem ky_Writes_init : y_Writes_init.cls ≠ "java/lang/invoke/MethodHandle" ∧ y_Writes_init.cls ≠ "java/lang/invoke/VarHandle" ∧ (parseMethodDescriptor y_Writes_init.desc).map (fun d => d.parameters.length) = some 0 := by decide +kernel
theorem ky_Client_init : y_Client_init.cls ≠ "java/lang/invoke/MethodHandle" ∧ y_Client_init.cls ≠ "java/lang/invoke/VarHandle" ∧ (parseMethodDescriptor y_Client_init.desc).map (fun d => d.parameters.length) = some 1 := by decide +kernel
theorem ky_Master_init : y_Master_init.cls ≠ "java/lang/invoke/MethodHandle" ∧ y_Master_init.cls ≠ "java/lang/invoke/VarHandle" ∧ (parseMethodDescriptor y_Master_init.desc).map (fun d => d.parameters.length) = some 3 := by decide +kernel
theorem ky_ES_init : y_ES_init.cls ≠ "java/lang/invoke/MethodHandle" ∧ y_ES_init.cls ≠ "java/lang/invoke/VarHandle" ∧ (parseMethodDescriptor y_ES_init.desc).map (fun d => d.parameters.length) = some 0 := by decide +kernel
theorem ky_ES_epochOfMajority : y_ES_epochOfMajority.cls = Rn_ES ∧ y_ES_epochOfMajority.cls ≠ "java/lang/invoke/MethodHandle" ∧ y_ES_epochOfMajority.cls ≠ "java/lang/invoke/VarHandle" ∧ (parseMethodDescriptor y_ES_epochOfMajority.desc).map (fun d => d.parameters.length) = some 0 := by decide +kernel
theorem ky_ES_isClient : y_ES_isClient.cls = Rn_ES ∧ y_ES_isClient.cls ≠ "java/lang/invoke/MethodHandle" ∧ y_ES_isClient.cls ≠ "java/lang/invoke/VarHandle" ∧ (parseMethodDescriptor y_ES_isClient.desc).map (fun d => d.parameters.length) = some 1 := by decide +kernel
theorem ky_ES_find : y_ES_find.cls = Rn_ES ∧ y_ES_find.cls ≠ "java/lang/invoke/MethodHandle" ∧ y_ES_find.cls ≠ "java/lang/invoke/VarHandle" ∧ (parseMethodDescriptor y_ES_find.desc).map (fun d => d.parameters.length) = some 1 := by decide +kernel
theorem ky_Client_isBusy : y_Client_isBusy.cls = Rn_Client ∧ y_Client_isBusy.cls ≠ "java/lang/invoke/MethodHandle" ∧ y_Client_isBusy.cls ≠ "java/lang/invoke/VarHandle" ∧ (parseMethodDescriptor y_Client_isBusy.desc).map (fun d => d.parameters.length) = some 0 := by decide +kernel
theorem ky_Message_reset : y_Message_reset.cls = Rn_Message ∧ y_Message_reset.cls ≠ "java/lang/invoke/MethodHandle" ∧ y_Message_reset.cls ≠ "java/lang/invoke/VarHandle" ∧ (parseMethodDescriptor y_Message_reset.desc).map (fun d => d.parameters.length) = some 3 := by decide +kernel
theorem ky_Line_send : y_Line_send.cls = Rn_Line ∧ y_Line_send.cls ≠ "java/lang/invoke/MethodHandle" ∧ y_Line_send.cls ≠ "java/lang/invoke/VarHandle" ∧ (parseMethodDescriptor y_Line_send.desc).map (fun d => d.parameters.length) = some 3 := by decide +kernel
theorem ky_Client_ask : y_Client_ask.cls = Rn_Client ∧ y_Client_ask.cls ≠ "java/lang/invoke/MethodHandle" ∧ y_Client_ask.cls ≠ "java/lang/invoke/VarHandle" ∧ (parseMethodDescriptor y_Client_ask.desc).map (fun d => d.parameters.length) = some 1 := by decide +kernel
theorem ky_ES_begin : y_ES_begin.cls = Rn_ES ∧ y_ES_begin.cls ≠ "java/lang/invoke/MethodHandle" ∧ y_ES_begin.cls ≠ "java/lang/invoke/VarHandle" ∧ (parseMethodDescriptor y_ES_begin.desc).map (fun d => d.parameters.length) = some 1 := by decide +kernel
theorem ky_ES_isOpen : y_ES_isOpen.cls = Rn_ES ∧ y_ES_isOpen.cls ≠ "java/lang/invoke/MethodHandle" ∧ y_ES_isOpen.cls ≠ "java/lang/invoke/VarHandle" ∧ (parseMethodDescriptor y_ES_isOpen.desc).map (fun d => d.parameters.length) = some 1 := by decide +kernel
theorem ky_ES_isKey : y_ES_isKey.cls = Rn_ES ∧ y_ES_isKey.cls ≠ "java/lang/invoke/MethodHandle" ∧ y_ES_isKey.cls ≠ "java/lang/invoke/VarHandle" ∧ (parseMethodDescriptor y_ES_isKey.desc).map (fun d => d.parameters.length) = some 1 := by decide +kernel
theorem ky_Writes_has : y_Writes_has.cls = Rn_Writes ∧ y_Writes_has.cls ≠ "java/lang/invoke/MethodHandle" ∧ y_Writes_has.cls ≠ "java/lang/invoke/VarHandle" ∧ (parseMethodDescriptor y_Writes_has.desc).map (fun d => d.parameters.length) = some 1 := by decide +kernel
theorem ky_Storage_valueAt : y_Storage_valueAt.cls = Rn_Storage ∧ y_Storage_valueAt.cls ≠ "java/lang/invoke/MethodHandle" ∧ y_Storage_valueAt.cls ≠ "java/lang/invoke/VarHandle" ∧ (parseMethodDescriptor y_Storage_valueAt.desc).map (fun d => d.parameters.length) = some 3 := by decide +kernel
theorem ky_ES_valueFor : y_ES_valueFor.cls = Rn_ES ∧ y_ES_valueFor.cls ≠ "java/lang/invoke/MethodHandle" ∧ y_ES_valueFor.cls ≠ "java/lang/invoke/VarHandle" ∧ (parseMethodDescriptor y_ES_valueFor.desc).map (fun d => d.parameters.length) = some 2 := by decide +kernel
theorem ky_ES_isValue : y_ES_isValue.cls = Rn_ES ∧ y_ES_isValue.cls ≠ "java/lang/invoke/MethodHandle" ∧ y_ES_isValue.cls ≠ "java/lang/invoke/VarHandle" ∧ (parseMethodDescriptor y_ES_isValue.desc).map (fun d => d.parameters.length) = some 1 := by decide +kernel
theorem ky_Client_noteUnwritten : y_Client_noteUnwritten.cls = Rn_Client ∧ y_Client_noteUnwritten.cls ≠ "java/lang/invoke/MethodHandle" ∧ y_Client_noteUnwritten.cls ≠ "java/lang/invoke/VarHandle" ∧ (parseMethodDescriptor y_Client_noteUnwritten.desc).map (fun d => d.parameters.length) = some 1 := by decide +kernel
theorem ky_ES_read : y_ES_read.cls = Rn_ES ∧ y_ES_read.cls ≠ "java/lang/invoke/MethodHandle" ∧ y_ES_read.cls ≠ "java/lang/invoke/VarHandle" ∧ (parseMethodDescriptor y_ES_read.desc).map (fun d => d.parameters.length) = some 2 := by decide +kernel
theorem ky_ES_range : y_ES_range.cls = Rn_ES ∧ y_ES_range.cls ≠ "java/lang/invoke/MethodHandle" ∧ y_ES_range.cls ≠ "java/lang/invoke/VarHandle" ∧ (parseMethodDescriptor y_ES_range.desc).map (fun d => d.parameters.length) = some 3 := by decide +kernel
theorem ky_Writes_put : y_Writes_put.cls = Rn_Writes ∧ y_Writes_put.cls ≠ "java/lang/invoke/MethodHandle" ∧ y_Writes_put.cls ≠ "java/lang/invoke/VarHandle" ∧ (parseMethodDescriptor y_Writes_put.desc).map (fun d => d.parameters.length) = some 2 := by decide +kernel
theorem ky_ES_write : y_ES_write.cls = Rn_ES ∧ y_ES_write.cls ≠ "java/lang/invoke/MethodHandle" ∧ y_ES_write.cls ≠ "java/lang/invoke/VarHandle" ∧ (parseMethodDescriptor y_ES_write.desc).map (fun d => d.parameters.length) = some 3 := by decide +kernel
theorem ky_Client_finish : y_Client_finish.cls = Rn_Client ∧ y_Client_finish.cls ≠ "java/lang/invoke/MethodHandle" ∧ y_Client_finish.cls ≠ "java/lang/invoke/VarHandle" ∧ (parseMethodDescriptor y_Client_finish.desc).map (fun d => d.parameters.length) = some 1 := by decide +kernel
theorem ky_ES_commit : y_ES_commit.cls = Rn_ES ∧ y_ES_commit.cls ≠ "java/lang/invoke/MethodHandle" ∧ y_ES_commit.cls ≠ "java/lang/invoke/VarHandle" ∧ (parseMethodDescriptor y_ES_commit.desc).map (fun d => d.parameters.length) = some 1 := by decide +kernel
theorem ky_Client_drop : y_Client_drop.cls = Rn_Client ∧ y_Client_drop.cls ≠ "java/lang/invoke/MethodHandle" ∧ y_Client_drop.cls ≠ "java/lang/invoke/VarHandle" ∧ (parseMethodDescriptor y_Client_drop.desc).map (fun d => d.parameters.length) = some 0 := by decide +kernel
theorem ky_ES_giveUp : y_ES_giveUp.cls = Rn_ES ∧ y_ES_giveUp.cls ≠ "java/lang/invoke/MethodHandle" ∧ y_ES_giveUp.cls ≠ "java/lang/invoke/VarHandle" ∧ (parseMethodDescriptor y_ES_giveUp.desc).map (fun d => d.parameters.length) = some 1 := by decide +kernel
theorem ky_Client_code : y_Client_code.cls = Rn_Client ∧ y_Client_code.cls ≠ "java/lang/invoke/MethodHandle" ∧ y_Client_code.cls ≠ "java/lang/invoke/VarHandle" ∧ (parseMethodDescriptor y_Client_code.desc).map (fun d => d.parameters.length) = some 0 := by decide +kernel
theorem ky_ES_status : y_ES_status.cls = Rn_ES ∧ y_ES_status.cls ≠ "java/lang/invoke/MethodHandle" ∧ y_ES_status.cls ≠ "java/lang/invoke/VarHandle" ∧ (parseMethodDescriptor y_ES_status.desc).map (fun d => d.parameters.length) = some 1 := by decide +kernel
theorem ky_ES_messages : y_ES_messages.cls = Rn_ES ∧ y_ES_messages.cls ≠ "java/lang/invoke/MethodHandle" ∧ y_ES_messages.cls ≠ "java/lang/invoke/VarHandle" ∧ (parseMethodDescriptor y_ES_messages.desc).map (fun d => d.parameters.length) = some 0 := by decide +kernel
theorem ky_Line_has : y_Line_has.cls = Rn_Line ∧ y_Line_has.cls ≠ "java/lang/invoke/MethodHandle" ∧ y_Line_has.cls ≠ "java/lang/invoke/VarHandle" ∧ (parseMethodDescriptor y_Line_has.desc).map (fun d => d.parameters.length) = some 1 := by decide +kernel
theorem ky_Message_code : y_Message_code.cls = Rn_Message ∧ y_Message_code.cls ≠ "java/lang/invoke/MethodHandle" ∧ y_Message_code.cls ≠ "java/lang/invoke/VarHandle" ∧ (parseMethodDescriptor y_Message_code.desc).map (fun d => d.parameters.length) = some 0 := by decide +kernel
theorem ky_ES_message : y_ES_message.cls = Rn_ES ∧ y_ES_message.cls ≠ "java/lang/invoke/MethodHandle" ∧ y_ES_message.cls ≠ "java/lang/invoke/VarHandle" ∧ (parseMethodDescriptor y_ES_message.desc).map (fun d => d.parameters.length) = some 1 := by decide +kernel
theorem ky_Line_take : y_Line_take.cls = Rn_Line ∧ y_Line_take.cls ≠ "java/lang/invoke/MethodHandle" ∧ y_Line_take.cls ≠ "java/lang/invoke/VarHandle" ∧ (parseMethodDescriptor y_Line_take.desc).map (fun d => d.parameters.length) = some 1 := by decide +kernel
theorem ky_Log_takeRecord : y_Log_takeRecord.cls = Rn_Log ∧ y_Log_takeRecord.cls ≠ "java/lang/invoke/MethodHandle" ∧ y_Log_takeRecord.cls ≠ "java/lang/invoke/VarHandle" ∧ (parseMethodDescriptor y_Log_takeRecord.desc).map (fun d => d.parameters.length) = some 1 := by decide +kernel
theorem ky_Log_receive : y_Log_receive.cls = Rn_Log ∧ y_Log_receive.cls ≠ "java/lang/invoke/MethodHandle" ∧ y_Log_receive.cls ≠ "java/lang/invoke/VarHandle" ∧ (parseMethodDescriptor y_Log_receive.desc).map (fun d => d.parameters.length) = some 2 := by decide +kernel
theorem ky_Client_receive : y_Client_receive.cls = Rn_Client ∧ y_Client_receive.cls ≠ "java/lang/invoke/MethodHandle" ∧ y_Client_receive.cls ≠ "java/lang/invoke/VarHandle" ∧ (parseMethodDescriptor y_Client_receive.desc).map (fun d => d.parameters.length) = some 1 := by decide +kernel
theorem ky_ES_isMaster : y_ES_isMaster.cls = Rn_ES ∧ y_ES_isMaster.cls ≠ "java/lang/invoke/MethodHandle" ∧ y_ES_isMaster.cls ≠ "java/lang/invoke/VarHandle" ∧ (parseMethodDescriptor y_ES_isMaster.desc).map (fun d => d.parameters.length) = some 1 := by decide +kernel
theorem ky_Question_init : y_Question_init.cls ≠ "java/lang/invoke/MethodHandle" ∧ y_Question_init.cls ≠ "java/lang/invoke/VarHandle" ∧ (parseMethodDescriptor y_Question_init.desc).map (fun d => d.parameters.length) = some 3 := by decide +kernel
theorem ky_Master_openQuestion : y_Master_openQuestion.cls = Rn_Master ∧ y_Master_openQuestion.cls ≠ "java/lang/invoke/MethodHandle" ∧ y_Master_openQuestion.cls ≠ "java/lang/invoke/VarHandle" ∧ (parseMethodDescriptor y_Master_openQuestion.desc).map (fun d => d.parameters.length) = some 2 := by decide +kernel
theorem ky_Master_placeOfQuestion : y_Master_placeOfQuestion.cls = Rn_Master ∧ y_Master_placeOfQuestion.cls ≠ "java/lang/invoke/MethodHandle" ∧ y_Master_placeOfQuestion.cls ≠ "java/lang/invoke/VarHandle" ∧ (parseMethodDescriptor y_Master_placeOfQuestion.desc).map (fun d => d.parameters.length) = some 1 := by decide +kernel
theorem ky_Master_answer : y_Master_answer.cls = Rn_Master ∧ y_Master_answer.cls ≠ "java/lang/invoke/MethodHandle" ∧ y_Master_answer.cls ≠ "java/lang/invoke/VarHandle" ∧ (parseMethodDescriptor y_Master_answer.desc).map (fun d => d.parameters.length) = some 2 := by decide +kernel
theorem ky_Master_removeQuestion : y_Master_removeQuestion.cls = Rn_Master ∧ y_Master_removeQuestion.cls ≠ "java/lang/invoke/MethodHandle" ∧ y_Master_removeQuestion.cls ≠ "java/lang/invoke/VarHandle" ∧ (parseMethodDescriptor y_Master_removeQuestion.desc).map (fun d => d.parameters.length) = some 1 := by decide +kernel
theorem ky_Master_takeConfirmation : y_Master_takeConfirmation.cls = Rn_Master ∧ y_Master_takeConfirmation.cls ≠ "java/lang/invoke/MethodHandle" ∧ y_Master_takeConfirmation.cls ≠ "java/lang/invoke/VarHandle" ∧ (parseMethodDescriptor y_Master_takeConfirmation.desc).map (fun d => d.parameters.length) = some 2 := by decide +kernel
theorem ky_Master_sendResult : y_Master_sendResult.cls = Rn_Master ∧ y_Master_sendResult.cls ≠ "java/lang/invoke/MethodHandle" ∧ y_Master_sendResult.cls ≠ "java/lang/invoke/VarHandle" ∧ (parseMethodDescriptor y_Master_sendResult.desc).map (fun d => d.parameters.length) = some 4 := by decide +kernel
theorem ky_Master_findsConflict : y_Master_findsConflict.cls = Rn_Master ∧ y_Master_findsConflict.cls ≠ "java/lang/invoke/MethodHandle" ∧ y_Master_findsConflict.cls ≠ "java/lang/invoke/VarHandle" ∧ (parseMethodDescriptor y_Master_findsConflict.desc).map (fun d => d.parameters.length) = some 2 := by decide +kernel
theorem ky_Master_letPass : y_Master_letPass.cls = Rn_Master ∧ y_Master_letPass.cls ≠ "java/lang/invoke/MethodHandle" ∧ y_Master_letPass.cls ≠ "java/lang/invoke/VarHandle" ∧ (parseMethodDescriptor y_Master_letPass.desc).map (fun d => d.parameters.length) = some 2 := by decide +kernel
theorem ky_Master_passesResolvers : y_Master_passesResolvers.cls = Rn_Master ∧ y_Master_passesResolvers.cls ≠ "java/lang/invoke/MethodHandle" ∧ y_Master_passesResolvers.cls ≠ "java/lang/invoke/VarHandle" ∧ (parseMethodDescriptor y_Master_passesResolvers.desc).map (fun d => d.parameters.length) = some 1 := by decide +kernel
theorem ky_Entry_init : y_Entry_init.cls ≠ "java/lang/invoke/MethodHandle" ∧ y_Entry_init.cls ≠ "java/lang/invoke/VarHandle" ∧ (parseMethodDescriptor y_Entry_init.desc).map (fun d => d.parameters.length) = some 3 := by decide +kernel
theorem ky_OnWay_init : y_OnWay_init.cls ≠ "java/lang/invoke/MethodHandle" ∧ y_OnWay_init.cls ≠ "java/lang/invoke/VarHandle" ∧ (parseMethodDescriptor y_OnWay_init.desc).map (fun d => d.parameters.length) = some 3 := by decide +kernel
theorem ky_Master_pushToOthers : y_Master_pushToOthers.cls = Rn_Master ∧ y_Master_pushToOthers.cls ≠ "java/lang/invoke/MethodHandle" ∧ y_Master_pushToOthers.cls ≠ "java/lang/invoke/VarHandle" ∧ (parseMethodDescriptor y_Master_pushToOthers.desc).map (fun d => d.parameters.length) = some 2 := by decide +kernel
theorem ky_Master_putOnWay : y_Master_putOnWay.cls = Rn_Master ∧ y_Master_putOnWay.cls ≠ "java/lang/invoke/MethodHandle" ∧ y_Master_putOnWay.cls ≠ "java/lang/invoke/VarHandle" ∧ (parseMethodDescriptor y_Master_putOnWay.desc).map (fun d => d.parameters.length) = some 2 := by decide +kernel
theorem ky_Master_decide : y_Master_decide.cls = Rn_Master ∧ y_Master_decide.cls ≠ "java/lang/invoke/MethodHandle" ∧ y_Master_decide.cls ≠ "java/lang/invoke/VarHandle" ∧ (parseMethodDescriptor y_Master_decide.desc).map (fun d => d.parameters.length) = some 2 := by decide +kernel
theorem ky_Master_takeAcknowledgement : y_Master_takeAcknowledgement.cls = Rn_Master ∧ y_Master_takeAcknowledgement.cls ≠ "java/lang/invoke/MethodHandle" ∧ y_Master_takeAcknowledgement.cls ≠ "java/lang/invoke/VarHandle" ∧ (parseMethodDescriptor y_Master_takeAcknowledgement.desc).map (fun d => d.parameters.length) = some 1 := by decide +kernel
theorem ky_Master_removeOldestOnWay : y_Master_removeOldestOnWay.cls = Rn_Master ∧ y_Master_removeOldestOnWay.cls ≠ "java/lang/invoke/MethodHandle" ∧ y_Master_removeOldestOnWay.cls ≠ "java/lang/invoke/VarHandle" ∧ (parseMethodDescriptor y_Master_removeOldestOnWay.desc).map (fun d => d.parameters.length) = some 1 := by decide +kernel
theorem ky_Master_settle : y_Master_settle.cls = Rn_Master ∧ y_Master_settle.cls ≠ "java/lang/invoke/MethodHandle" ∧ y_Master_settle.cls ≠ "java/lang/invoke/VarHandle" ∧ (parseMethodDescriptor y_Master_settle.desc).map (fun d => d.parameters.length) = some 1 := by decide +kernel
theorem ky_Master_receive : y_Master_receive.cls = Rn_Master ∧ y_Master_receive.cls ≠ "java/lang/invoke/MethodHandle" ∧ y_Master_receive.cls ≠ "java/lang/invoke/VarHandle" ∧ (parseMethodDescriptor y_Master_receive.desc).map (fun d => d.parameters.length) = some 2 := by decide +kernel
theorem ky_ES_deliver : y_ES_deliver.cls = Rn_ES ∧ y_ES_deliver.cls ≠ "java/lang/invoke/MethodHandle" ∧ y_ES_deliver.cls ≠ "java/lang/invoke/VarHandle" ∧ (parseMethodDescriptor y_ES_deliver.desc).map (fun d => d.parameters.length) = some 1 := by decide +kernel
theorem ky_ES_lose : y_ES_lose.cls = Rn_ES ∧ y_ES_lose.cls ≠ "java/lang/invoke/MethodHandle" ∧ y_ES_lose.cls ≠ "java/lang/invoke/VarHandle" ∧ (parseMethodDescriptor y_ES_lose.desc).map (fun d => d.parameters.length) = some 1 := by decide +kernel
theorem ky_ES_stopMaster : y_ES_stopMaster.cls = Rn_ES ∧ y_ES_stopMaster.cls ≠ "java/lang/invoke/MethodHandle" ∧ y_ES_stopMaster.cls ≠ "java/lang/invoke/VarHandle" ∧ (parseMethodDescriptor y_ES_stopMaster.desc).map (fun d => d.parameters.length) = some 1 := by decide +kernel
theorem ky_ES_isCoordinator : y_ES_isCoordinator.cls = Rn_ES ∧ y_ES_isCoordinator.cls ≠ "java/lang/invoke/MethodHandle" ∧ y_ES_isCoordinator.cls ≠ "java/lang/invoke/VarHandle" ∧ (parseMethodDescriptor y_ES_isCoordinator.desc).map (fun d => d.parameters.length) = some 1 := by decide +kernel
theorem ky_ES_isLog : y_ES_isLog.cls = Rn_ES ∧ y_ES_isLog.cls ≠ "java/lang/invoke/MethodHandle" ∧ y_ES_isLog.cls ≠ "java/lang/invoke/VarHandle" ∧ (parseMethodDescriptor y_ES_isLog.desc).map (fun d => d.parameters.length) = some 1 := by decide +kernel
theorem ky_ES_isStorage : y_ES_isStorage.cls = Rn_ES ∧ y_ES_isStorage.cls ≠ "java/lang/invoke/MethodHandle" ∧ y_ES_isStorage.cls ≠ "java/lang/invoke/VarHandle" ∧ (parseMethodDescriptor y_ES_isStorage.desc).map (fun d => d.parameters.length) = some 1 := by decide +kernel
theorem ky_ES_isServer : y_ES_isServer.cls = Rn_ES ∧ y_ES_isServer.cls ≠ "java/lang/invoke/MethodHandle" ∧ y_ES_isServer.cls ≠ "java/lang/invoke/VarHandle" ∧ (parseMethodDescriptor y_ES_isServer.desc).map (fun d => d.parameters.length) = some 2 := by decide +kernel
theorem ky_ES_isUp : y_ES_isUp.cls = Rn_ES ∧ y_ES_isUp.cls ≠ "java/lang/invoke/MethodHandle" ∧ y_ES_isUp.cls ≠ "java/lang/invoke/VarHandle" ∧ (parseMethodDescriptor y_ES_isUp.desc).map (fun d => d.parameters.length) = some 2 := by decide +kernel
theorem ky_ES_setUp : y_ES_setUp.cls = Rn_ES ∧ y_ES_setUp.cls ≠ "java/lang/invoke/MethodHandle" ∧ y_ES_setUp.cls ≠ "java/lang/invoke/VarHandle" ∧ (parseMethodDescriptor y_ES_setUp.desc).map (fun d => d.parameters.length) = some 3 := by decide +kernel
theorem ky_ES_stop : y_ES_stop.cls = Rn_ES ∧ y_ES_stop.cls ≠ "java/lang/invoke/MethodHandle" ∧ y_ES_stop.cls ≠ "java/lang/invoke/VarHandle" ∧ (parseMethodDescriptor y_ES_stop.desc).map (fun d => d.parameters.length) = some 2 := by decide +kernel
theorem ky_ES_start : y_ES_start.cls = Rn_ES ∧ y_ES_start.cls ≠ "java/lang/invoke/MethodHandle" ∧ y_ES_start.cls ≠ "java/lang/invoke/VarHandle" ∧ (parseMethodDescriptor y_ES_start.desc).map (fun d => d.parameters.length) = some 2 := by decide +kernel
theorem ky_Storage_goBackTo : y_Storage_goBackTo.cls = Rn_Storage ∧ y_Storage_goBackTo.cls ≠ "java/lang/invoke/MethodHandle" ∧ y_Storage_goBackTo.cls ≠ "java/lang/invoke/VarHandle" ∧ (parseMethodDescriptor y_Storage_goBackTo.desc).map (fun d => d.parameters.length) = some 1 := by decide +kernel
theorem ky_Log_firstAbove : y_Log_firstAbove.cls = Rn_Log ∧ y_Log_firstAbove.cls ≠ "java/lang/invoke/MethodHandle" ∧ y_Log_firstAbove.cls ≠ "java/lang/invoke/VarHandle" ∧ (parseMethodDescriptor y_Log_firstAbove.desc).map (fun d => d.parameters.length) = some 1 := by decide +kernel
theorem ky_Storage_keep : y_Storage_keep.cls = Rn_Storage ∧ y_Storage_keep.cls ≠ "java/lang/invoke/MethodHandle" ∧ y_Storage_keep.cls ≠ "java/lang/invoke/VarHandle" ∧ (parseMethodDescriptor y_Storage_keep.desc).map (fun d => d.parameters.length) = some 1 := by decide +kernel
theorem ky_Storage_advanceFrom : y_Storage_advanceFrom.cls = Rn_Storage ∧ y_Storage_advanceFrom.cls ≠ "java/lang/invoke/MethodHandle" ∧ y_Storage_advanceFrom.cls ≠ "java/lang/invoke/VarHandle" ∧ (parseMethodDescriptor y_Storage_advanceFrom.desc).map (fun d => d.parameters.length) = some 1 := by decide +kernel
theorem ky_ES_pull : y_ES_pull.cls = Rn_ES ∧ y_ES_pull.cls ≠ "java/lang/invoke/MethodHandle" ∧ y_ES_pull.cls ≠ "java/lang/invoke/VarHandle" ∧ (parseMethodDescriptor y_ES_pull.desc).map (fun d => d.parameters.length) = some 2 := by decide +kernel
theorem ky_Master_pushAgain : y_Master_pushAgain.cls = Rn_Master ∧ y_Master_pushAgain.cls ≠ "java/lang/invoke/MethodHandle" ∧ y_Master_pushAgain.cls ≠ "java/lang/invoke/VarHandle" ∧ (parseMethodDescriptor y_Master_pushAgain.desc).map (fun d => d.parameters.length) = some 1 := by decide +kernel
theorem ky_ES_push : y_ES_push.cls = Rn_ES ∧ y_ES_push.cls ≠ "java/lang/invoke/MethodHandle" ∧ y_ES_push.cls ≠ "java/lang/invoke/VarHandle" ∧ (parseMethodDescriptor y_ES_push.desc).map (fun d => d.parameters.length) = some 1 := by decide +kernel
theorem ky_ES_raiseCoordinators : y_ES_raiseCoordinators.cls = Rn_ES ∧ y_ES_raiseCoordinators.cls ≠ "java/lang/invoke/MethodHandle" ∧ y_ES_raiseCoordinators.cls ≠ "java/lang/invoke/VarHandle" ∧ (parseMethodDescriptor y_ES_raiseCoordinators.desc).map (fun d => d.parameters.length) = some 1 := by decide +kernel
theorem ky_Log_copyFrom : y_Log_copyFrom.cls = Rn_Log ∧ y_Log_copyFrom.cls ≠ "java/lang/invoke/MethodHandle" ∧ y_Log_copyFrom.cls ≠ "java/lang/invoke/VarHandle" ∧ (parseMethodDescriptor y_Log_copyFrom.desc).map (fun d => d.parameters.length) = some 1 := by decide +kernel
theorem ky_Log_enter : y_Log_enter.cls = Rn_Log ∧ y_Log_enter.cls ≠ "java/lang/invoke/MethodHandle" ∧ y_Log_enter.cls ≠ "java/lang/invoke/VarHandle" ∧ (parseMethodDescriptor y_Log_enter.desc).map (fun d => d.parameters.length) = some 3 := by decide +kernel
theorem ky_ES_beginEpoch : y_ES_beginEpoch.cls = Rn_ES ∧ y_ES_beginEpoch.cls ≠ "java/lang/invoke/MethodHandle" ∧ y_ES_beginEpoch.cls ≠ "java/lang/invoke/VarHandle" ∧ (parseMethodDescriptor y_ES_beginEpoch.desc).map (fun d => d.parameters.length) = some 2 := by decide +kernel
theorem ky_ES_recover : y_ES_recover.cls = Rn_ES ∧ y_ES_recover.cls ≠ "java/lang/invoke/MethodHandle" ∧ y_ES_recover.cls ≠ "java/lang/invoke/VarHandle" ∧ (parseMethodDescriptor y_ES_recover.desc).map (fun d => d.parameters.length) = some 1 := by decide +kernel
theorem ky_Log_code : y_Log_code.cls = Rn_Log ∧ y_Log_code.cls ≠ "java/lang/invoke/MethodHandle" ∧ y_Log_code.cls ≠ "java/lang/invoke/VarHandle" ∧ (parseMethodDescriptor y_Log_code.desc).map (fun d => d.parameters.length) = some 0 := by decide +kernel
theorem ky_ES_log : y_ES_log.cls = Rn_ES ∧ y_ES_log.cls ≠ "java/lang/invoke/MethodHandle" ∧ y_ES_log.cls ≠ "java/lang/invoke/VarHandle" ∧ (parseMethodDescriptor y_ES_log.desc).map (fun d => d.parameters.length) = some 1 := by decide +kernel
theorem ky_Storage_code : y_Storage_code.cls = Rn_Storage ∧ y_Storage_code.cls ≠ "java/lang/invoke/MethodHandle" ∧ y_Storage_code.cls ≠ "java/lang/invoke/VarHandle" ∧ (parseMethodDescriptor y_Storage_code.desc).map (fun d => d.parameters.length) = some 0 := by decide +kernel
theorem ky_ES_storage : y_ES_storage.cls = Rn_ES ∧ y_ES_storage.cls ≠ "java/lang/invoke/MethodHandle" ∧ y_ES_storage.cls ≠ "java/lang/invoke/VarHandle" ∧ (parseMethodDescriptor y_ES_storage.desc).map (fun d => d.parameters.length) = some 1 := by decide +kernel
theorem ky_Master_code : y_Master_code.cls = Rn_Master ∧ y_Master_code.cls ≠ "java/lang/invoke/MethodHandle" ∧ y_Master_code.cls ≠ "java/lang/invoke/VarHandle" ∧ (parseMethodDescriptor y_Master_code.desc).map (fun d => d.parameters.length) = some 0 := by decide +kernel
theorem ky_ES_master : y_ES_master.cls = Rn_ES ∧ y_ES_master.cls ≠ "java/lang/invoke/MethodHandle" ∧ y_ES_master.cls ≠ "java/lang/invoke/VarHandle" ∧ (parseMethodDescriptor y_ES_master.desc).map (fun d => d.parameters.length) = some 1 := by decide +kernel
theorem ky_ES_committed : y_ES_committed.cls = Rn_ES ∧ y_ES_committed.cls ≠ "java/lang/invoke/MethodHandle" ∧ y_ES_committed.cls ≠ "java/lang/invoke/VarHandle" ∧ (parseMethodDescriptor y_ES_committed.desc).map (fun d => d.parameters.length) = some 1 := by decide +kernel
theorem ky_Coordinator_code : y_Coordinator_code.cls = Rn_Coordinator ∧ y_Coordinator_code.cls ≠ "java/lang/invoke/MethodHandle" ∧ y_Coordinator_code.cls ≠ "java/lang/invoke/VarHandle" ∧ (parseMethodDescriptor y_Coordinator_code.desc).map (fun d => d.parameters.length) = some 0 := by decide +kernel
theorem ky_ES_coordinator : y_ES_coordinator.cls = Rn_ES ∧ y_ES_coordinator.cls ≠ "java/lang/invoke/MethodHandle" ∧ y_ES_coordinator.cls ≠ "java/lang/invoke/VarHandle" ∧ (parseMethodDescriptor y_ES_coordinator.desc).map (fun d => d.parameters.length) = some 1 := by decide +kernel
theorem ky_EM_init : y_EM_init.cls ≠ "java/lang/invoke/MethodHandle" ∧ y_EM_init.cls ≠ "java/lang/invoke/VarHandle" ∧ (parseMethodDescriptor y_EM_init.desc).map (fun d => d.parameters.length) = some 0 := by decide +kernel
theorem ky_EM_send : y_EM_send.cls = Rn_EM ∧ y_EM_send.cls ≠ "java/lang/invoke/MethodHandle" ∧ y_EM_send.cls ≠ "java/lang/invoke/VarHandle" ∧ (parseMethodDescriptor y_EM_send.desc).map (fun d => d.parameters.length) = some 5 := by decide +kernel
theorem ky_EM_copyMessage : y_EM_copyMessage.cls = Rn_EM ∧ y_EM_copyMessage.cls ≠ "java/lang/invoke/MethodHandle" ∧ y_EM_copyMessage.cls ≠ "java/lang/invoke/VarHandle" ∧ (parseMethodDescriptor y_EM_copyMessage.desc).map (fun d => d.parameters.length) = some 2 := by decide +kernel
theorem ky_EM_take : y_EM_take.cls = Rn_EM ∧ y_EM_take.cls ≠ "java/lang/invoke/MethodHandle" ∧ y_EM_take.cls ≠ "java/lang/invoke/VarHandle" ∧ (parseMethodDescriptor y_EM_take.desc).map (fun d => d.parameters.length) = some 1 := by decide +kernel
theorem ky_EM_messages : y_EM_messages.cls = Rn_EM ∧ y_EM_messages.cls ≠ "java/lang/invoke/MethodHandle" ∧ y_EM_messages.cls ≠ "java/lang/invoke/VarHandle" ∧ (parseMethodDescriptor y_EM_messages.desc).map (fun d => d.parameters.length) = some 0 := by decide +kernel
theorem ky_EM_message : y_EM_message.cls = Rn_EM ∧ y_EM_message.cls ≠ "java/lang/invoke/MethodHandle" ∧ y_EM_message.cls ≠ "java/lang/invoke/VarHandle" ∧ (parseMethodDescriptor y_EM_message.desc).map (fun d => d.parameters.length) = some 1 := by decide +kernel
theorem ky_EM_lose : y_EM_lose.cls = Rn_EM ∧ y_EM_lose.cls ≠ "java/lang/invoke/MethodHandle" ∧ y_EM_lose.cls ≠ "java/lang/invoke/VarHandle" ∧ (parseMethodDescriptor y_EM_lose.desc).map (fun d => d.parameters.length) = some 1 := by decide +kernel
theorem ky_EM_pushed : y_EM_pushed.cls = Rn_EM ∧ y_EM_pushed.cls ≠ "java/lang/invoke/MethodHandle" ∧ y_EM_pushed.cls ≠ "java/lang/invoke/VarHandle" ∧ (parseMethodDescriptor y_EM_pushed.desc).map (fun d => d.parameters.length) = some 3 := by decide +kernel
theorem ky_EM_ask : y_EM_ask.cls = Rn_EM ∧ y_EM_ask.cls ≠ "java/lang/invoke/MethodHandle" ∧ y_EM_ask.cls ≠ "java/lang/invoke/VarHandle" ∧ (parseMethodDescriptor y_EM_ask.desc).map (fun d => d.parameters.length) = some 3 := by decide +kernel
theorem ky_EM_confirmed : y_EM_confirmed.cls = Rn_EM ∧ y_EM_confirmed.cls ≠ "java/lang/invoke/MethodHandle" ∧ y_EM_confirmed.cls ≠ "java/lang/invoke/VarHandle" ∧ (parseMethodDescriptor y_EM_confirmed.desc).map (fun d => d.parameters.length) = some 3 := by decide +kernel
theorem ky_EM_result : y_EM_result.cls = Rn_EM ∧ y_EM_result.cls ≠ "java/lang/invoke/MethodHandle" ∧ y_EM_result.cls ≠ "java/lang/invoke/VarHandle" ∧ (parseMethodDescriptor y_EM_result.desc).map (fun d => d.parameters.length) = some 5 := by decide +kernel
theorem ky_EM_finds : y_EM_finds.cls = Rn_EM ∧ y_EM_finds.cls ≠ "java/lang/invoke/MethodHandle" ∧ y_EM_finds.cls ≠ "java/lang/invoke/VarHandle" ∧ (parseMethodDescriptor y_EM_finds.desc).map (fun d => d.parameters.length) = some 3 := by decide +kernel
theorem ky_EM_pushOut : y_EM_pushOut.cls = Rn_EM ∧ y_EM_pushOut.cls ≠ "java/lang/invoke/MethodHandle" ∧ y_EM_pushOut.cls ≠ "java/lang/invoke/VarHandle" ∧ (parseMethodDescriptor y_EM_pushOut.desc).map (fun d => d.parameters.length) = some 2 := by decide +kernel
theorem ky_EM_judge : y_EM_judge.cls = Rn_EM ∧ y_EM_judge.cls ≠ "java/lang/invoke/MethodHandle" ∧ y_EM_judge.cls ≠ "java/lang/invoke/VarHandle" ∧ (parseMethodDescriptor y_EM_judge.desc).map (fun d => d.parameters.length) = some 4 := by decide +kernel
theorem ky_EM_copyWay : y_EM_copyWay.cls = Rn_EM ∧ y_EM_copyWay.cls ≠ "java/lang/invoke/MethodHandle" ∧ y_EM_copyWay.cls ≠ "java/lang/invoke/VarHandle" ∧ (parseMethodDescriptor y_EM_copyWay.desc).map (fun d => d.parameters.length) = some 1 := by decide +kernel
theorem ky_EM_acknowledged : y_EM_acknowledged.cls = Rn_EM ∧ y_EM_acknowledged.cls ≠ "java/lang/invoke/MethodHandle" ∧ y_EM_acknowledged.cls ≠ "java/lang/invoke/VarHandle" ∧ (parseMethodDescriptor y_EM_acknowledged.desc).map (fun d => d.parameters.length) = some 3 := by decide +kernel
theorem ky_EM_toMaster : y_EM_toMaster.cls = Rn_EM ∧ y_EM_toMaster.cls ≠ "java/lang/invoke/MethodHandle" ∧ y_EM_toMaster.cls ≠ "java/lang/invoke/VarHandle" ∧ (parseMethodDescriptor y_EM_toMaster.desc).map (fun d => d.parameters.length) = some 5 := by decide +kernel
theorem ky_EM_hand : y_EM_hand.cls = Rn_EM ∧ y_EM_hand.cls ≠ "java/lang/invoke/MethodHandle" ∧ y_EM_hand.cls ≠ "java/lang/invoke/VarHandle" ∧ (parseMethodDescriptor y_EM_hand.desc).map (fun d => d.parameters.length) = some 3 := by decide +kernel
theorem ky_EM_deliver : y_EM_deliver.cls = Rn_EM ∧ y_EM_deliver.cls ≠ "java/lang/invoke/MethodHandle" ∧ y_EM_deliver.cls ≠ "java/lang/invoke/VarHandle" ∧ (parseMethodDescriptor y_EM_deliver.desc).map (fun d => d.parameters.length) = some 1 := by decide +kernel
theorem ky_EM_isMaster : y_EM_isMaster.cls = Rn_EM ∧ y_EM_isMaster.cls ≠ "java/lang/invoke/MethodHandle" ∧ y_EM_isMaster.cls ≠ "java/lang/invoke/VarHandle" ∧ (parseMethodDescriptor y_EM_isMaster.desc).map (fun d => d.parameters.length) = some 1 := by decide +kernel
theorem ky_EM_push : y_EM_push.cls = Rn_EM ∧ y_EM_push.cls ≠ "java/lang/invoke/MethodHandle" ∧ y_EM_push.cls ≠ "java/lang/invoke/VarHandle" ∧ (parseMethodDescriptor y_EM_push.desc).map (fun d => d.parameters.length) = some 1 := by decide +kernel
theorem ky_EM_master : y_EM_master.cls = Rn_EM ∧ y_EM_master.cls ≠ "java/lang/invoke/MethodHandle" ∧ y_EM_master.cls ≠ "java/lang/invoke/VarHandle" ∧ (parseMethodDescriptor y_EM_master.desc).map (fun d => d.parameters.length) = some 1 := by decide +kernel
theorem ky_EM_committed : y_EM_committed.cls = Rn_EM ∧ y_EM_committed.cls ≠ "java/lang/invoke/MethodHandle" ∧ y_EM_committed.cls ≠ "java/lang/invoke/VarHandle" ∧ (parseMethodDescriptor y_EM_committed.desc).map (fun d => d.parameters.length) = some 1 := by decide +kernel
theorem ky_EM_isClient : y_EM_isClient.cls = Rn_EM ∧ y_EM_isClient.cls ≠ "java/lang/invoke/MethodHandle" ∧ y_EM_isClient.cls ≠ "java/lang/invoke/VarHandle" ∧ (parseMethodDescriptor y_EM_isClient.desc).map (fun d => d.parameters.length) = some 1 := by decide +kernel
theorem ky_EM_isOpen : y_EM_isOpen.cls = Rn_EM ∧ y_EM_isOpen.cls ≠ "java/lang/invoke/MethodHandle" ∧ y_EM_isOpen.cls ≠ "java/lang/invoke/VarHandle" ∧ (parseMethodDescriptor y_EM_isOpen.desc).map (fun d => d.parameters.length) = some 1 := by decide +kernel
theorem ky_EM_coordinatorsUp : y_EM_coordinatorsUp.cls = Rn_EM ∧ y_EM_coordinatorsUp.cls ≠ "java/lang/invoke/MethodHandle" ∧ y_EM_coordinatorsUp.cls ≠ "java/lang/invoke/VarHandle" ∧ (parseMethodDescriptor y_EM_coordinatorsUp.desc).map (fun d => d.parameters.length) = some 0 := by decide +kernel
theorem ky_EM_greatest : y_EM_greatest.cls = Rn_EM ∧ y_EM_greatest.cls ≠ "java/lang/invoke/MethodHandle" ∧ y_EM_greatest.cls ≠ "java/lang/invoke/VarHandle" ∧ (parseMethodDescriptor y_EM_greatest.desc).map (fun d => d.parameters.length) = some 0 := by decide +kernel
theorem ky_EM_find : y_EM_find.cls = Rn_EM ∧ y_EM_find.cls ≠ "java/lang/invoke/MethodHandle" ∧ y_EM_find.cls ≠ "java/lang/invoke/VarHandle" ∧ (parseMethodDescriptor y_EM_find.desc).map (fun d => d.parameters.length) = some 1 := by decide +kernel
theorem ky_EM_begin : y_EM_begin.cls = Rn_EM ∧ y_EM_begin.cls ≠ "java/lang/invoke/MethodHandle" ∧ y_EM_begin.cls ≠ "java/lang/invoke/VarHandle" ∧ (parseMethodDescriptor y_EM_begin.desc).map (fun d => d.parameters.length) = some 1 := by decide +kernel
theorem ky_EM_reading : y_EM_reading.cls = Rn_EM ∧ y_EM_reading.cls ≠ "java/lang/invoke/MethodHandle" ∧ y_EM_reading.cls ≠ "java/lang/invoke/VarHandle" ∧ (parseMethodDescriptor y_EM_reading.desc).map (fun d => d.parameters.length) = some 2 := by decide +kernel
theorem ky_EM_wrote : y_EM_wrote.cls = Rn_EM ∧ y_EM_wrote.cls ≠ "java/lang/invoke/MethodHandle" ∧ y_EM_wrote.cls ≠ "java/lang/invoke/VarHandle" ∧ (parseMethodDescriptor y_EM_wrote.desc).map (fun d => d.parameters.length) = some 2 := by decide +kernel
theorem ky_EM_read : y_EM_read.cls = Rn_EM ∧ y_EM_read.cls ≠ "java/lang/invoke/MethodHandle" ∧ y_EM_read.cls ≠ "java/lang/invoke/VarHandle" ∧ (parseMethodDescriptor y_EM_read.desc).map (fun d => d.parameters.length) = some 2 := by decide +kernel
theorem ky_EM_range : y_EM_range.cls = Rn_EM ∧ y_EM_range.cls ≠ "java/lang/invoke/MethodHandle" ∧ y_EM_range.cls ≠ "java/lang/invoke/VarHandle" ∧ (parseMethodDescriptor y_EM_range.desc).map (fun d => d.parameters.length) = some 3 := by decide +kernel
theorem ky_EM_write : y_EM_write.cls = Rn_EM ∧ y_EM_write.cls ≠ "java/lang/invoke/MethodHandle" ∧ y_EM_write.cls ≠ "java/lang/invoke/VarHandle" ∧ (parseMethodDescriptor y_EM_write.desc).map (fun d => d.parameters.length) = some 3 := by decide +kernel
theorem ky_EM_commit : y_EM_commit.cls = Rn_EM ∧ y_EM_commit.cls ≠ "java/lang/invoke/MethodHandle" ∧ y_EM_commit.cls ≠ "java/lang/invoke/VarHandle" ∧ (parseMethodDescriptor y_EM_commit.desc).map (fun d => d.parameters.length) = some 1 := by decide +kernel
theorem ky_EM_giveUp : y_EM_giveUp.cls = Rn_EM ∧ y_EM_giveUp.cls ≠ "java/lang/invoke/MethodHandle" ∧ y_EM_giveUp.cls ≠ "java/lang/invoke/VarHandle" ∧ (parseMethodDescriptor y_EM_giveUp.desc).map (fun d => d.parameters.length) = some 1 := by decide +kernel
theorem ky_EM_status : y_EM_status.cls = Rn_EM ∧ y_EM_status.cls ≠ "java/lang/invoke/MethodHandle" ∧ y_EM_status.cls ≠ "java/lang/invoke/VarHandle" ∧ (parseMethodDescriptor y_EM_status.desc).map (fun d => d.parameters.length) = some 1 := by decide +kernel
theorem ky_EM_join : y_EM_join.cls = Rn_EM ∧ y_EM_join.cls ≠ "java/lang/invoke/MethodHandle" ∧ y_EM_join.cls ≠ "java/lang/invoke/VarHandle" ∧ (parseMethodDescriptor y_EM_join.desc).map (fun d => d.parameters.length) = some 2 := by decide +kernel
theorem ky_EM_keep : y_EM_keep.cls = Rn_EM ∧ y_EM_keep.cls ≠ "java/lang/invoke/MethodHandle" ∧ y_EM_keep.cls ≠ "java/lang/invoke/VarHandle" ∧ (parseMethodDescriptor y_EM_keep.desc).map (fun d => d.parameters.length) = some 2 := by decide +kernel
theorem ky_EM_pull : y_EM_pull.cls = Rn_EM ∧ y_EM_pull.cls ≠ "java/lang/invoke/MethodHandle" ∧ y_EM_pull.cls ≠ "java/lang/invoke/VarHandle" ∧ (parseMethodDescriptor y_EM_pull.desc).map (fun d => d.parameters.length) = some 2 := by decide +kernel
theorem ky_EM_copyLog : y_EM_copyLog.cls = Rn_EM ∧ y_EM_copyLog.cls ≠ "java/lang/invoke/MethodHandle" ∧ y_EM_copyLog.cls ≠ "java/lang/invoke/VarHandle" ∧ (parseMethodDescriptor y_EM_copyLog.desc).map (fun d => d.parameters.length) = some 2 := by decide +kernel
theorem ky_EM_recover : y_EM_recover.cls = Rn_EM ∧ y_EM_recover.cls ≠ "java/lang/invoke/MethodHandle" ∧ y_EM_recover.cls ≠ "java/lang/invoke/VarHandle" ∧ (parseMethodDescriptor y_EM_recover.desc).map (fun d => d.parameters.length) = some 1 := by decide +kernel
theorem ky_EM_turned : y_EM_turned.cls = Rn_EM ∧ y_EM_turned.cls ≠ "java/lang/invoke/MethodHandle" ∧ y_EM_turned.cls ≠ "java/lang/invoke/VarHandle" ∧ (parseMethodDescriptor y_EM_turned.desc).map (fun d => d.parameters.length) = some 3 := by decide +kernel
theorem ky_EM_stop : y_EM_stop.cls = Rn_EM ∧ y_EM_stop.cls ≠ "java/lang/invoke/MethodHandle" ∧ y_EM_stop.cls ≠ "java/lang/invoke/VarHandle" ∧ (parseMethodDescriptor y_EM_stop.desc).map (fun d => d.parameters.length) = some 2 := by decide +kernel
theorem ky_EM_start : y_EM_start.cls = Rn_EM ∧ y_EM_start.cls ≠ "java/lang/invoke/MethodHandle" ∧ y_EM_start.cls ≠ "java/lang/invoke/VarHandle" ∧ (parseMethodDescriptor y_EM_start.desc).map (fun d => d.parameters.length) = some 2 := by decide +kernel
theorem ky_EM_log : y_EM_log.cls = Rn_EM ∧ y_EM_log.cls ≠ "java/lang/invoke/MethodHandle" ∧ y_EM_log.cls ≠ "java/lang/invoke/VarHandle" ∧ (parseMethodDescriptor y_EM_log.desc).map (fun d => d.parameters.length) = some 1 := by decide +kernel
theorem ky_EM_storage : y_EM_storage.cls = Rn_EM ∧ y_EM_storage.cls ≠ "java/lang/invoke/MethodHandle" ∧ y_EM_storage.cls ≠ "java/lang/invoke/VarHandle" ∧ (parseMethodDescriptor y_EM_storage.desc).map (fun d => d.parameters.length) = some 1 := by decide +kernel
theorem ky_EM_coordinator : y_EM_coordinator.cls = Rn_EM ∧ y_EM_coordinator.cls ≠ "java/lang/invoke/MethodHandle" ∧ y_EM_coordinator.cls ≠ "java/lang/invoke/VarHandle" ∧ (parseMethodDescriptor y_EM_coordinator.desc).map (fun d => d.parameters.length) = some 1 := by decide +kernel
theorem kn_b_6 : (Int8.ofInt (6)).toInt32 = (6 : Int32) := by decide +kernel
theorem kn_b_7 : (Int8.ofInt (7)).toInt32 = (7 : Int32) := by decide +kernel
theorem kn_b_8 : (Int8.ofInt (8)).toInt32 = (8 : Int32) := by decide +kernel
theorem kn_b_9 : (Int8.ofInt (9)).toInt32 = (9 : Int32) := by decide +kernel
theorem kn_b_10 : (Int8.ofInt (10)).toInt32 = (10 : Int32) := by decide +kernel
theorem kn_b_12 : (Int8.ofInt (12)).toInt32 = (12 : Int32) := by decide +kernel
theorem kn_b_15 : (Int8.ofInt (15)).toInt32 = (15 : Int32) := by decide +kernel
theorem kn_b_16 : (Int8.ofInt (16)).toInt32 = (16 : Int32) := by decide +kernel
theorem kn_b_24 : (Int8.ofInt (24)).toInt32 = (24 : Int32) := by decide +kernel
theorem kn_b_25 : (Int8.ofInt (25)).toInt32 = (25 : Int32) := by decide +kernel
theorem kn_b_30 : (Int8.ofInt (30)).toInt32 = (30 : Int32) := by decide +kernel
theorem kn_b_80 : (Int8.ofInt (80)).toInt32 = (80 : Int32) := by decide +kernel
theorem kn_b_100 : (Int8.ofInt (100)).toInt32 = (100 : Int32) := by decide +kernel
theorem kn_i_m1 : Int32.ofInt (-1) = (-1 : Int32) := by decide +kernel
theorem kn_i_0 : Int32.ofInt (0) = (0 : Int32) := by decide +kernel
theorem kn_i_1 : Int32.ofInt (1) = (1 : Int32) := by decide +kernel
theorem kn_i_2 : Int32.ofInt (2) = (2 : Int32) := by decide +kernel
theorem kn_i_3 : Int32.ofInt (3) = (3 : Int32) := by decide +kernel
theorem kn_i_4 : Int32.ofInt (4) = (4 : Int32) := by decide +kernel
theorem kn_i_5 : Int32.ofInt (5) = (5 : Int32) := by decide +kernel
theorem kn_l_0 : Int64.ofNat ((0 : Fin 2) : Nat) = (0 : Int64) := by decide +kernel
theorem kn_l_1 : Int64.ofNat ((1 : Fin 2) : Nat) = (1 : Int64) := by decide +kernel
theorem kn_s_128 : (Int16.ofInt (128)).toInt32 = (128 : Int32) := by decide +kernel
theorem kn_s_192 : (Int16.ofInt (192)).toInt32 = (192 : Int32) := by decide +kernel
theorem kn_s_200 : (Int16.ofInt (200)).toInt32 = (200 : Int32) := by decide +kernel
theorem kn_s_240 : (Int16.ofInt (240)).toInt32 = (240 : Int32) := by decide +kernel
theorem kn_s_256 : (Int16.ofInt (256)).toInt32 = (256 : Int32) := by decide +kernel
theorem kn_s_300 : (Int16.ofInt (300)).toInt32 = (300 : Int32) := by decide +kernel
theorem kn_s_640 : (Int16.ofInt (640)).toInt32 = (640 : Int32) := by decide +kernel
theorem kn_s_800 : (Int16.ofInt (800)).toInt32 = (800 : Int32) := by decide +kernel
theorem kn_s_2048 : (Int16.ofInt (2048)).toInt32 = (2048 : Int32) := by decide +kernel
theorem kn_s_2400 : (Int16.ofInt (2400)).toInt32 = (2400 : Int32) := by decide +kernel
theorem xdf_ES : ∀ j, j < 6 → defaultValue (tn_ES j) = if xx_r 0 j = true then .null else .int 0 := by decide +kernel
theorem xdf_Coordinator : ∀ j, j < 2 → defaultValue (tn_Coordinator j) = if xx_r 1 j = true then .null else .int 0 := by decide +kernel
theorem xdf_Writes : ∀ j, j < 2 → defaultValue (tn_Writes j) = if xx_r 2 j = true then .null else .int 0 := by decide +kernel
theorem xdf_Entry : ∀ j, j < 3 → defaultValue (tn_Entry j) = if xx_r 3 j = true then .null else .int 0 := by decide +kernel
theorem xdf_Message : ∀ j, j < 10 → defaultValue (tn_Message j) = if xx_r 4 j = true then .null else .int 0 := by decide +kernel
theorem xdf_Line : ∀ j, j < 3 → defaultValue (tn_Line j) = if xx_r 5 j = true then .null else .int 0 := by decide +kernel
theorem xdf_Question : ∀ j, j < 4 → defaultValue (tn_Question j) = if xx_r 6 j = true then .null else .int 0 := by decide +kernel
theorem xdf_OnWay : ∀ j, j < 4 → defaultValue (tn_OnWay j) = if xx_r 7 j = true then .null else .int 0 := by decide +kernel
theorem xdf_Master : ∀ j, j < 12 → defaultValue (tn_Master j) = if xx_r 8 j = true then .null else .int 0 := by decide +kernel
theorem xdf_Log : ∀ j, j < 7 → defaultValue (tn_Log j) = if xx_r 9 j = true then .null else .int 0 := by decide +kernel
theorem xdf_Storage : ∀ j, j < 6 → defaultValue (tn_Storage j) = if xx_r 10 j = true then .null else .int 0 := by decide +kernel
theorem xdf_Client : ∀ j, j < 9 → defaultValue (tn_Client j) = if xx_r 11 j = true then .null else .int 0 := by decide +kernel
theorem xdf_EM : ∀ j, j < 56 → defaultValue (tn_EM j) = if xx_r 12 j = true then .null else .int 0 := by decide +kernel
