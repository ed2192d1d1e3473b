/-! a name of the rest of the library, so that the round is read over the whole of it from its first part on -/
theorem wd_0 : True := (fun _ => trivial) (@Stand.thenCaughtThrough)
