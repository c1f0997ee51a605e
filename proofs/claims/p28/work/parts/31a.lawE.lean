/-! the law: the known ones -/

