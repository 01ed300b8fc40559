theorem str_247 : Cond.stringRef "SilenceBureau" 53 "bureau 2 5; street elm 60 20; street oak 85 50; borrower ann elm 3 40; borrower bob oak 7 90; borrower cid oak 2 50; permit oak 10 2; lend ann 4 2; lend bob 6 3; hours 5" ∈ tables_1 := by
  unfold tables_1
  exact List.mem_append_right _ (List.mem_append_left _ (List.mem_of_getElem? (i := 7) (by decide +kernel)))
theorem str_346 : Cond.stringRef "SilenceBureau$Parser" 41 "bureau" ∈ tables_1 := by
  unfold tables_1
  exact List.mem_append_right _ (List.mem_append_left _ (List.mem_of_getElem? (i := 106) (by decide +kernel)))
theorem str_361 : Cond.stringRef "SilenceBureau$Parser" 63 "street" ∈ tables_1 := by
  unfold tables_1
  exact List.mem_append_right _ (List.mem_append_left _ (List.mem_of_getElem? (i := 121) (by decide +kernel)))
theorem str_381 : Cond.stringRef "SilenceBureau$Parser" 68 "borrower" ∈ tables_1 := by
  unfold tables_1
  exact List.mem_append_right _ (List.mem_append_left _ (List.mem_of_getElem? (i := 141) (by decide +kernel)))
theorem str_398 : Cond.stringRef "SilenceBureau$Parser" 73 "permit" ∈ tables_1 := by
  unfold tables_1
  exact List.mem_append_right _ (List.mem_append_left _ (List.mem_of_getElem? (i := 158) (by decide +kernel)))
theorem str_422 : Cond.stringRef "SilenceBureau$Parser" 78 "lend" ∈ tables_1 := by
  unfold tables_1
  exact List.mem_append_right _ (List.mem_append_left _ (List.mem_of_getElem? (i := 182) (by decide +kernel)))
theorem str_471 : Cond.stringRef "SilenceBureau$Parser" 83 "whistle" ∈ tables_1 := by
  unfold tables_1
  exact List.mem_append_right _ (List.mem_append_left _ (List.mem_of_getElem? (i := 231) (by decide +kernel)))
theorem str_480 : Cond.stringRef "SilenceBureau$Parser" 88 "hours" ∈ tables_1 := by
  unfold tables_1
  exact List.mem_append_right _ (List.mem_append_right _ (List.mem_append_left _ (List.mem_of_getElem? (i := 0) (by decide +kernel))))
theorem str_618 : Cond.stringRef "SilenceBureau" 365 "no such slot" ∈ tables_1 := by
  unfold tables_1
  exact List.mem_append_right _ (List.mem_append_right _ (List.mem_append_left _ (List.mem_of_getElem? (i := 138) (by decide +kernel))))
theorem str_653 : Cond.stringRef "SilenceBureau" 319 "nothing is saved in the slot" ∈ tables_1 := by
  unfold tables_1
  exact List.mem_append_right _ (List.mem_append_right _ (List.mem_append_left _ (List.mem_of_getElem? (i := 173) (by decide +kernel))))
theorem str_708 : Cond.stringRef "SilenceBureau" 76 "the input buffer is full" ∈ tables_1 := by
  unfold tables_1
  exact List.mem_append_right _ (List.mem_append_right _ (List.mem_append_left _ (List.mem_of_getElem? (i := 228) (by decide +kernel))))
theorem str_717 : Cond.stringRef "SilenceBureau" 87 "length is out of range" ∈ tables_1 := by
  unfold tables_1
  exact List.mem_append_right _ (List.mem_append_right _ (List.mem_append_left _ (List.mem_of_getElem? (i := 237) (by decide +kernel))))
theorem str_731 : Cond.stringRef "SilenceBureau" 101 "the text has an error" ∈ tables_1 := by
  unfold tables_1
  exact List.mem_append_right _ (List.mem_append_right _ (List.mem_append_right _ (List.mem_append_left _ (List.mem_of_getElem? (i := 11) (by decide +kernel)))))
theorem str_751 : Cond.stringRef "SilenceBureau" 321 "there is no change to undo" ∈ tables_1 := by
  unfold tables_1
  exact List.mem_append_right _ (List.mem_append_right _ (List.mem_append_right _ (List.mem_append_left _ (List.mem_of_getElem? (i := 31) (by decide +kernel)))))
theorem str_767 : Cond.stringRef "SilenceBureau" 361 "no such borrower" ∈ tables_1 := by
  unfold tables_1
  exact List.mem_append_right _ (List.mem_append_right _ (List.mem_append_right _ (List.mem_append_left _ (List.mem_of_getElem? (i := 47) (by decide +kernel)))))
theorem str_775 : Cond.stringRef "SilenceBureau" 369 "an hour is not in the horizon" ∈ tables_1 := by
  unfold tables_1
  exact List.mem_append_right _ (List.mem_append_right _ (List.mem_append_right _ (List.mem_append_left _ (List.mem_of_getElem? (i := 55) (by decide +kernel)))))
theorem str_777 : Cond.stringRef "SilenceBureau" 258 "the bureau refuses the loan" ∈ tables_1 := by
  unfold tables_1
  exact List.mem_append_right _ (List.mem_append_right _ (List.mem_append_right _ (List.mem_append_left _ (List.mem_of_getElem? (i := 57) (by decide +kernel)))))
theorem str_790 : Cond.stringRef "SilenceBureau" 363 "no such loan" ∈ tables_1 := by
  unfold tables_1
  exact List.mem_append_right _ (List.mem_append_right _ (List.mem_append_right _ (List.mem_append_left _ (List.mem_of_getElem? (i := 70) (by decide +kernel)))))
theorem str_791 : Cond.stringRef "SilenceBureau" 266 "the loan is not planned" ∈ tables_1 := by
  unfold tables_1
  exact List.mem_append_right _ (List.mem_append_right _ (List.mem_append_right _ (List.mem_append_left _ (List.mem_of_getElem? (i := 71) (by decide +kernel)))))
theorem str_803 : Cond.stringRef "SilenceBureau" 275 "the loan is neither ended nor overdue" ∈ tables_1 := by
  unfold tables_1
  exact List.mem_append_right _ (List.mem_append_right _ (List.mem_append_right _ (List.mem_append_left _ (List.mem_of_getElem? (i := 83) (by decide +kernel)))))
theorem str_816 : Cond.stringRef "SilenceBureau" 359 "no such street" ∈ tables_1 := by
  unfold tables_1
  exact List.mem_append_right _ (List.mem_append_right _ (List.mem_append_right _ (List.mem_append_left _ (List.mem_of_getElem? (i := 96) (by decide +kernel)))))
theorem str_818 : Cond.stringRef "SilenceBureau" 284 "the permit cannot be granted" ∈ tables_1 := by
  unfold tables_1
  exact List.mem_append_right _ (List.mem_append_right _ (List.mem_append_right _ (List.mem_append_left _ (List.mem_of_getElem? (i := 98) (by decide +kernel)))))
theorem str_827 : Cond.stringRef "SilenceBureau" 289 "no such permit" ∈ tables_1 := by
  unfold tables_1
  exact List.mem_append_right _ (List.mem_append_right _ (List.mem_append_right _ (List.mem_append_left _ (List.mem_of_getElem? (i := 107) (by decide +kernel)))))
theorem str_828 : Cond.stringRef "SilenceBureau" 301 "the permit is revoked" ∈ tables_1 := by
  unfold tables_1
  exact List.mem_append_right _ (List.mem_append_right _ (List.mem_append_right _ (List.mem_append_left _ (List.mem_of_getElem? (i := 108) (by decide +kernel)))))
theorem str_840 : Cond.stringRef "SilenceBureau" 306 "amount is out of range" ∈ tables_1 := by
  unfold tables_1
  exact List.mem_append_right _ (List.mem_append_right _ (List.mem_append_right _ (List.mem_append_left _ (List.mem_of_getElem? (i := 120) (by decide +kernel)))))
theorem str_849 : Cond.stringRef "SilenceBureau" 246 "hours is out of range" ∈ tables_1 := by
  unfold tables_1
  exact List.mem_append_right _ (List.mem_append_right _ (List.mem_append_right _ (List.mem_append_left _ (List.mem_of_getElem? (i := 129) (by decide +kernel)))))
theorem str_850 : Cond.stringRef "SilenceBureau" 311 "the clock would exceed its last value" ∈ tables_1 := by
  unfold tables_1
  exact List.mem_append_right _ (List.mem_append_right _ (List.mem_append_right _ (List.mem_append_left _ (List.mem_of_getElem? (i := 130) (by decide +kernel)))))
theorem str_857 : Cond.stringRef "SilenceBureauLaw" 74 "bureau " ∈ tables_1 := by
  unfold tables_1
  exact List.mem_append_right _ (List.mem_append_right _ (List.mem_append_right _ (List.mem_append_left _ (List.mem_of_getElem? (i := 137) (by decide +kernel)))))
theorem str_1027 : Cond.stringRef "SilenceBureauLaw" 89 ";street " ∈ tables_1 := by
  unfold tables_1
  exact List.mem_append_right _ (List.mem_append_right _ (List.mem_append_right _ (List.mem_append_right _ (List.mem_append_left _ (List.mem_of_getElem? (i := 67) (by decide +kernel))))))
theorem str_1029 : Cond.stringRef "SilenceBureauLaw" 94 ";borrower " ∈ tables_1 := by
  unfold tables_1
  exact List.mem_append_right _ (List.mem_append_right _ (List.mem_append_right _ (List.mem_append_right _ (List.mem_append_left _ (List.mem_of_getElem? (i := 69) (by decide +kernel))))))
theorem str_1030 : Cond.stringRef "SilenceBureauLaw" 96 ";hours " ∈ tables_1 := by
  unfold tables_1
  exact List.mem_append_right _ (List.mem_append_right _ (List.mem_append_right _ (List.mem_append_right _ (List.mem_append_left _ (List.mem_of_getElem? (i := 70) (by decide +kernel))))))
theorem str_1182 : Cond.stringRef "SilenceBureau" 367 "the hour is not in the horizon" ∈ tables_1 := by
  unfold tables_1
  exact List.mem_append_right _ (List.mem_append_right _ (List.mem_append_right _ (List.mem_append_right _ (List.mem_append_left _ (List.mem_of_getElem? (i := 222) (by decide +kernel))))))
theorem str_1279 : Cond.stringRef "SilenceBureau" 136 "no such status" ∈ tables_1 := by
  unfold tables_1
  exact List.mem_append_right _ (List.mem_append_right _ (List.mem_append_right _ (List.mem_append_right _ (List.mem_append_right _ (List.mem_of_getElem? (i := 79) (by decide +kernel))))))
