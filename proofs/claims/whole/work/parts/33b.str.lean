theorem str_252 : Cond.stringRef "SilenceBureau" 53 "bureau 2 5; street elm 60 20; street oak 85 50; borrower ann elm 3 40; borrower bob oak 7 90; borrower cid oak 2 50; permit oak 10 2; lend ann 4 2; lend bob 6 3; hours 5" ∈ tables_1 := by
  unfold tables_1
  exact List.mem_append_right _ (List.mem_append_left _ (List.mem_of_getElem? (i := 12) (by decide +kernel)))
theorem str_351 : Cond.stringRef "SilenceBureau$Parser" 41 "bureau" ∈ tables_1 := by
  unfold tables_1
  exact List.mem_append_right _ (List.mem_append_left _ (List.mem_of_getElem? (i := 111) (by decide +kernel)))
theorem str_366 : Cond.stringRef "SilenceBureau$Parser" 63 "street" ∈ tables_1 := by
  unfold tables_1
  exact List.mem_append_right _ (List.mem_append_left _ (List.mem_of_getElem? (i := 126) (by decide +kernel)))
theorem str_386 : Cond.stringRef "SilenceBureau$Parser" 68 "borrower" ∈ tables_1 := by
  unfold tables_1
  exact List.mem_append_right _ (List.mem_append_left _ (List.mem_of_getElem? (i := 146) (by decide +kernel)))
theorem str_403 : Cond.stringRef "SilenceBureau$Parser" 73 "permit" ∈ tables_1 := by
  unfold tables_1
  exact List.mem_append_right _ (List.mem_append_left _ (List.mem_of_getElem? (i := 163) (by decide +kernel)))
theorem str_427 : Cond.stringRef "SilenceBureau$Parser" 78 "lend" ∈ tables_1 := by
  unfold tables_1
  exact List.mem_append_right _ (List.mem_append_left _ (List.mem_of_getElem? (i := 187) (by decide +kernel)))
theorem str_476 : Cond.stringRef "SilenceBureau$Parser" 83 "whistle" ∈ tables_1 := by
  unfold tables_1
  exact List.mem_append_right _ (List.mem_append_left _ (List.mem_of_getElem? (i := 236) (by decide +kernel)))
theorem str_485 : Cond.stringRef "SilenceBureau$Parser" 88 "hours" ∈ tables_1 := by
  unfold tables_1
  exact List.mem_append_right _ (List.mem_append_right _ (List.mem_append_left _ (List.mem_of_getElem? (i := 5) (by decide +kernel))))
theorem str_702 : Cond.stringRef "SilenceBureau" 76 "the input buffer is full" ∈ tables_1 := by
  unfold tables_1
  exact List.mem_append_right _ (List.mem_append_right _ (List.mem_append_left _ (List.mem_of_getElem? (i := 222) (by decide +kernel))))
theorem str_750 : Cond.stringRef "SilenceBureau" 87 "length is out of range" ∈ tables_1 := by
  unfold tables_1
  exact List.mem_append_right _ (List.mem_append_right _ (List.mem_append_right _ (List.mem_append_left _ (List.mem_of_getElem? (i := 30) (by decide +kernel)))))
theorem str_770 : Cond.stringRef "SilenceBureau" 101 "the text has an error" ∈ tables_1 := by
  unfold tables_1
  exact List.mem_append_right _ (List.mem_append_right _ (List.mem_append_right _ (List.mem_append_left _ (List.mem_of_getElem? (i := 50) (by decide +kernel)))))
theorem str_808 : Cond.stringRef "SilenceBureau" 136 "no such status" ∈ tables_1 := by
  unfold tables_1
  exact List.mem_append_right _ (List.mem_append_right _ (List.mem_append_right _ (List.mem_append_left _ (List.mem_of_getElem? (i := 88) (by decide +kernel)))))
theorem str_824 : Cond.stringRef "SilenceBureau" 359 "no such street" ∈ tables_1 := by
  unfold tables_1
  exact List.mem_append_right _ (List.mem_append_right _ (List.mem_append_right _ (List.mem_append_left _ (List.mem_of_getElem? (i := 104) (by decide +kernel)))))
theorem str_837 : Cond.stringRef "SilenceBureau" 367 "the hour is not in the horizon" ∈ tables_1 := by
  unfold tables_1
  exact List.mem_append_right _ (List.mem_append_right _ (List.mem_append_right _ (List.mem_append_left _ (List.mem_of_getElem? (i := 117) (by decide +kernel)))))
theorem str_863 : Cond.stringRef "SilenceBureau" 361 "no such borrower" ∈ tables_1 := by
  unfold tables_1
  exact List.mem_append_right _ (List.mem_append_right _ (List.mem_append_right _ (List.mem_append_left _ (List.mem_of_getElem? (i := 143) (by decide +kernel)))))
theorem str_896 : Cond.stringRef "SilenceBureau" 363 "no such loan" ∈ tables_1 := by
  unfold tables_1
  exact List.mem_append_right _ (List.mem_append_right _ (List.mem_append_right _ (List.mem_append_left _ (List.mem_of_getElem? (i := 176) (by decide +kernel)))))
theorem str_962 : Cond.stringRef "SilenceBureau" 369 "an hour is not in the horizon" ∈ tables_1 := by
  unfold tables_1
  exact List.mem_append_right _ (List.mem_append_right _ (List.mem_append_right _ (List.mem_append_right _ (List.mem_append_left _ (List.mem_of_getElem? (i := 2) (by decide +kernel))))))
theorem str_1008 : Cond.stringRef "SilenceBureau" 246 "hours is out of range" ∈ tables_1 := by
  unfold tables_1
  exact List.mem_append_right _ (List.mem_append_right _ (List.mem_append_right _ (List.mem_append_right _ (List.mem_append_left _ (List.mem_of_getElem? (i := 48) (by decide +kernel))))))
theorem str_1027 : Cond.stringRef "SilenceBureau" 258 "the bureau refuses the loan" ∈ tables_1 := by
  unfold tables_1
  exact List.mem_append_right _ (List.mem_append_right _ (List.mem_append_right _ (List.mem_append_right _ (List.mem_append_left _ (List.mem_of_getElem? (i := 67) (by decide +kernel))))))
theorem str_1042 : Cond.stringRef "SilenceBureau" 266 "the loan is not planned" ∈ tables_1 := by
  unfold tables_1
  exact List.mem_append_right _ (List.mem_append_right _ (List.mem_append_right _ (List.mem_append_right _ (List.mem_append_left _ (List.mem_of_getElem? (i := 82) (by decide +kernel))))))
theorem str_1052 : Cond.stringRef "SilenceBureau" 275 "the loan is neither ended nor overdue" ∈ tables_1 := by
  unfold tables_1
  exact List.mem_append_right _ (List.mem_append_right _ (List.mem_append_right _ (List.mem_append_right _ (List.mem_append_left _ (List.mem_of_getElem? (i := 92) (by decide +kernel))))))
theorem str_1062 : Cond.stringRef "SilenceBureau" 284 "the permit cannot be granted" ∈ tables_1 := by
  unfold tables_1
  exact List.mem_append_right _ (List.mem_append_right _ (List.mem_append_right _ (List.mem_append_right _ (List.mem_append_left _ (List.mem_of_getElem? (i := 102) (by decide +kernel))))))
theorem str_1071 : Cond.stringRef "SilenceBureau" 289 "no such permit" ∈ tables_1 := by
  unfold tables_1
  exact List.mem_append_right _ (List.mem_append_right _ (List.mem_append_right _ (List.mem_append_right _ (List.mem_append_left _ (List.mem_of_getElem? (i := 111) (by decide +kernel))))))
theorem str_1072 : Cond.stringRef "SilenceBureau" 301 "the permit is revoked" ∈ tables_1 := by
  unfold tables_1
  exact List.mem_append_right _ (List.mem_append_right _ (List.mem_append_right _ (List.mem_append_right _ (List.mem_append_left _ (List.mem_of_getElem? (i := 112) (by decide +kernel))))))
theorem str_1084 : Cond.stringRef "SilenceBureau" 306 "amount is out of range" ∈ tables_1 := by
  unfold tables_1
  exact List.mem_append_right _ (List.mem_append_right _ (List.mem_append_right _ (List.mem_append_right _ (List.mem_append_left _ (List.mem_of_getElem? (i := 124) (by decide +kernel))))))
theorem str_1092 : Cond.stringRef "SilenceBureau" 311 "the clock would exceed its last value" ∈ tables_1 := by
  unfold tables_1
  exact List.mem_append_right _ (List.mem_append_right _ (List.mem_append_right _ (List.mem_append_right _ (List.mem_append_left _ (List.mem_of_getElem? (i := 132) (by decide +kernel))))))
theorem str_1104 : Cond.stringRef "SilenceBureau" 365 "no such slot" ∈ tables_1 := by
  unfold tables_1
  exact List.mem_append_right _ (List.mem_append_right _ (List.mem_append_right _ (List.mem_append_right _ (List.mem_append_left _ (List.mem_of_getElem? (i := 144) (by decide +kernel))))))
theorem str_1105 : Cond.stringRef "SilenceBureau" 319 "nothing is saved in the slot" ∈ tables_1 := by
  unfold tables_1
  exact List.mem_append_right _ (List.mem_append_right _ (List.mem_append_right _ (List.mem_append_right _ (List.mem_append_left _ (List.mem_of_getElem? (i := 145) (by decide +kernel))))))
theorem str_1113 : Cond.stringRef "SilenceBureau" 321 "there is no change to undo" ∈ tables_1 := by
  unfold tables_1
  exact List.mem_append_right _ (List.mem_append_right _ (List.mem_append_right _ (List.mem_append_right _ (List.mem_append_left _ (List.mem_of_getElem? (i := 153) (by decide +kernel))))))
theorem str_1294 : Cond.stringRef "SilenceBureau" 357 "no such byte" ∈ tables_1 := by
  unfold tables_1
  exact List.mem_append_right _ (List.mem_append_right _ (List.mem_append_right _ (List.mem_append_right _ (List.mem_append_right _ (List.mem_append_left _ (List.mem_of_getElem? (i := 94) (by decide +kernel)))))))
