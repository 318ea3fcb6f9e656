/-! a name of the whole library: every part is read over it (an array of arrays) -/
abbrev g_outerC := @Jvm.Free.Multi.outerC
