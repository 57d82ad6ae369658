/** What the tests of the project have in common: they compare, count what is wrong, and end. */
final class Check {
  private int wrong = 0;
  private int done = 0;
  private String part = "";

  /** A call whose exception is looked at. */
  interface Call {
    void go();
  }

  void part(String name) {
    part = name;
  }

  void same(String what, long got, long due) {
    done++;
    if (got != due) {
      tell(what + " answered " + got + ", due is " + due);
    }
  }

  void same(String what, boolean got, boolean due) {
    same(what, got ? 1 : 0, due ? 1 : 0);
  }

  void same(String what, String got, String due) {
    done++;
    if (!due.equals(got)) {
      tell(what + " answered \"" + got + "\", due is \"" + due + "\"");
    }
  }

  /** The call throws an IndexOutOfBoundsException of the program's own, and changes nothing. */
  void outOfBounds(Cachefront front, String what, Call call) {
    throwsOwn(front, what, call, IndexOutOfBoundsException.class);
  }

  /** The call throws an IllegalArgumentException, and changes nothing. */
  void wrongArgument(Cachefront front, String what, Call call) {
    throwsOwn(front, what, call, IllegalArgumentException.class);
  }

  void throwsOwn(Cachefront front, String what, Call call, Class<?> due) {
    done++;
    long before = front.digest();
    RuntimeException thrown = null;
    try {
      call.go();
    } catch (RuntimeException e) {
      thrown = e;
    }
    Class<?> got = thrown == null ? null : thrown.getClass();
    if (got != due) {
      tell(what + " threw " + got + ", due is " + due);
    }
    if (thrown != null && !isOwn(thrown)) {
      tell(what + " let the library or the machine throw");
    }
    if (front.digest() != before) {
      tell(what + " threw, and changed something");
    }
  }

  /** The call goes without any exception. */
  void goes(String what, Call call) {
    done++;
    try {
      call.go();
    } catch (RuntimeException e) {
      tell(what + " threw " + e.getClass());
    }
  }

  /** The library throws from its own classes, the machine others of its own below the one that is due. */
  private static boolean isOwn(RuntimeException e) {
    StackTraceElement[] trace = e.getStackTrace();
    return trace.length > 0 && trace[0].getClassName().startsWith("Cachefront");
  }

  private void tell(String line) {
    wrong++;
    System.out.println(part + ": " + line);
  }

  /** Ends the test's program, with 1 if something was wrong. */
  void end() {
    System.out.println(done + " answers looked at, " + wrong + " wrong");
    if (wrong != 0) {
      System.exit(1);
    }
  }
}
