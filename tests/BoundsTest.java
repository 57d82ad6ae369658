import java.lang.reflect.InvocationTargetException;
import java.lang.reflect.Method;
import java.util.ArrayList;
import java.util.List;

/**
 * Of each method of the face: every argument too small, at its least, at its most and too large, all
 * of them together with one another; which exception is thrown, and that nothing changes then.
 */
public final class BoundsTest {
  private static final Check CHECK = new Check();
  private static final int MAX = Integer.MAX_VALUE;
  private static final int MIN = Integer.MIN_VALUE;
  private static final int REQUESTS = 3;
  private static final int ENTRIES = 2;
  private static final int FETCHES = 3;

  /** An argument: whether it is an index ("no such ..."), its least and its most. */
  private record Bound(boolean isIndex, int least, int most) {
    boolean has(int x) {
      return x >= least && x <= most;
    }

    List<Integer> edges(boolean isAlone) {
      List<Integer> all = new ArrayList<>(List.of(least, most));
      if (least > MIN) {
        all.add(least - 1);
      }
      if (most < MAX) {
        all.add(most + 1);
      }
      if (isAlone) {
        all.add(MIN);
        all.add(MAX);
      }
      return all;
    }
  }

  private static final Bound ORIGIN = new Bound(true, 0, 4);
  private static final Bound PATH = new Bound(true, 0, 11);
  private static final Bound REQUEST = new Bound(true, 0, REQUESTS - 1);
  private static final Bound ENTRY = new Bound(true, 0, ENTRIES - 1);
  private static final Bound FETCH = new Bound(true, 0, FETCHES - 1);
  private static final Bound LANG = arg(0, 2);
  private static final Bound CODING = arg(0, 1);
  private static final Bound AGE = arg(-1, 600);

  private static Bound arg(int least, int most) {
    return new Bound(false, least, most);
  }

  public static void main(String[] args) {
    ofTime();
    ofDocuments();
    ofRequests();
    ofTheStore();
    ofTexts();
    ranges();
    tokens();
    emptyFront();
    CHECK.end();
  }

  private static void ofTime() {
    look(2, "goBy", arg(1, 60));
    look(3, "settle", arg(1, 120));
    look(4, "weigh", ORIGIN, arg(0, 4));
    look(5, "offset", ORIGIN, arg(-50, 50));
    look(6, "delay", ORIGIN, arg(1, 5));
    look(7, "mood", ORIGIN, arg(0, 2));
    look(8, "ofOrigin", ORIGIN, arg(0, 8));
    look(9, "order", PATH, null);
    look(10, "hash", arg(0, 9999));
    look(11, "ifWeighed", ORIGIN, arg(0, 4), PATH);
  }

  private static void ofDocuments() {
    look(12, "write", PATH, arg(0, 40), arg(0, 3), arg(0, 3));
    look(13, "touch", PATH);
    look(14, "remove", PATH);
    look(15, "policy", PATH, AGE, AGE, AGE, arg(0, 15));
    look(16, "stale", PATH, arg(0, 60), arg(0, 60));
    look(17, "ofPath", PATH, arg(0, 11));
    look(18, "body", PATH, LANG, CODING);
    look(19, "tag", PATH, LANG, CODING);
    look(20, "policyText", PATH);
  }

  private static void ofRequests() {
    look(21, "draft", arg(0, 4), arg(0, 11), LANG, CODING, arg(0, 40));
    look(22, "wish", AGE, AGE, AGE, arg(0, 7));
    look(23, "match", arg(-2, MAX), arg(-2, MAX));
    look(24, "since", arg(-1000, MAX), arg(-1000, MAX));
    look(28, "again", REQUEST);
    look(29, "get", arg(0, 11), LANG, CODING);
    look(30, "requestText", REQUEST);
    look(31, "isTold", REQUEST);
    look(32, "ofAnswer", REQUEST, arg(0, 13));
    look(33, "answerBody", REQUEST);
    look(34, "answerText", REQUEST);
    look(35, "isTrue", REQUEST);
  }

  private static void ofTheStore() {
    look(37, "room", arg(0, 600));
    look(39, "ofEntry", ENTRY, arg(0, 15));
    look(40, "entryBody", ENTRY);
    look(41, "selected", PATH, LANG, CODING);
    look(43, "purge", PATH);
    look(45, "warm", PATH, LANG, CODING);
    look(47, "ofFetch", FETCH, arg(0, 10));
    look(48, "fetchText", FETCH);
  }

  private static void ofTexts() {
    look(50, "cut", arg(1, 60));
    look(54, "toPolicy", PATH);
    look(57, "house", arg(0, 21));
  }

  /** Three REQUESTS (one WAITS), two ENTRIES, three FETCHES, a ROW and a DRAFT with something in it. */
  private static Cachefront front() {
    Cachefront x = new Cachefront();
    x.write(0, 5, 3, 0);
    x.write(1, 5, 3, 0);
    x.policy(0, 50, 1, 2, 8);
    x.stale(0, 3, 4);
    x.get(0, 0, 0);
    x.get(1, 0, 0);
    x.goBy(2);
    x.get(2, 1, 1);
    x.draft(0, 0, 2, 1, 7);
    x.wish(1, 2, 3, 1);
    x.match(4, 5);
    x.since(6, 7);
    x.range(2, 3, 9);
    x.type(13, 7, 1005, -1, -1);
    return x;
  }

  private static Method method(String name) {
    for (Method m : Cachefront.class.getMethods()) {
      if (m.getName().equals(name)) {
        return m;
      }
    }
    throw new IllegalStateException("no method " + name);
  }

  private static void look(int promise, String name, Bound... bounds) {
    CHECK.part(promise + " " + name);
    Method method = method(name);
    List<List<Integer>> all = new ArrayList<>(List.of(new ArrayList<>()));
    boolean isAlone = bounds.length <= 2;
    for (Bound bound : bounds) {
      List<List<Integer>> more = new ArrayList<>();
      for (List<Integer> before : all) {
        for (int x : bound == null ? List.of(0, 1) : bound.edges(isAlone)) {
          List<Integer> row = new ArrayList<>(before);
          row.add(x);
          more.add(row);
        }
      }
      all = more;
    }
    for (int i = 0; i < bounds.length && !isAlone; i++) {
      all.add(inBounds(bounds, i, MIN));
      all.add(inBounds(bounds, i, MAX));
    }
    for (List<Integer> row : all) {
      call(method, bounds, row);
    }
  }

  private static List<Integer> inBounds(Bound[] bounds, int odd, int x) {
    List<Integer> row = new ArrayList<>();
    for (int i = 0; i < bounds.length; i++) {
      row.add(i == odd ? x : bounds[i].least());
    }
    return row;
  }

  private static void call(Method method, Bound[] bounds, List<Integer> row) {
    Class<?> due = null;
    Object[] arguments = new Object[row.size()];
    for (int i = 0; i < arguments.length; i++) {
      Bound bound = bounds[i];
      arguments[i] = bound == null ? (Object) (row.get(i) == 1) : row.get(i);
      if (bound != null && !bound.has(row.get(i)) && due != IndexOutOfBoundsException.class) {
        due = bound.isIndex() ? IndexOutOfBoundsException.class : IllegalArgumentException.class;
      }
    }
    Cachefront x = front();
    String what = method.getName() + row;
    Check.Call call = () -> invoke(method, x, arguments);
    if (due == null) {
      CHECK.goes(what, call);
    } else {
      CHECK.throwsOwn(x, what, call, due);
    }
  }

  private static void invoke(Method method, Cachefront x, Object[] arguments) {
    try {
      method.invoke(x, arguments);
    } catch (InvocationTargetException e) {
      if (e.getCause() instanceof RuntimeException) {
        throw (RuntimeException) e.getCause();
      }
      throw new IllegalStateException(e.getCause());
    } catch (IllegalAccessException e) {
      throw new IllegalStateException(e);
    }
  }

  /** Two numbers that are a RANGE by the words of section 3, or nothing. */
  private static int kindOf(int first, int last) {
    if (first == -1 && last == -1) {
      return 0;
    }
    if (first >= 0 && last >= 0) {
      return first <= last ? 1 : -1;
    }
    if (first >= 0 && last == -1) {
      return 2;
    }
    return first == -1 && last >= 1 ? 3 : -1;
  }

  private static void ranges() {
    CHECK.part("25 range");
    int[] edges = {MIN, -1000, -3, -2, -1, 0, 1, 2, 40, MAX - 1, MAX};
    for (int first : edges) {
      for (int last : edges) {
        for (int ifRange : edges) {
          int kind = kindOf(first, last);
          Cachefront x = front();
          String what = "range(" + first + ", " + last + ", " + ifRange + ")";
          if (kind >= 0 && ifRange >= -1) {
            CHECK.same(what, x.range(first, last, ifRange), kind);
          } else {
            CHECK.wrongArgument(x, what, () -> x.range(first, last, ifRange));
          }
        }
      }
    }
  }

  private static boolean isToken(int x) {
    return x >= 0 && x <= 33 || x >= 1000 && x <= 1999;
  }

  private static void tokens() {
    CHECK.part("49 type");
    int[] edges = {MIN, -1000, -2, -1, 0, 33, 34, 999, 1000, 1999, 2000, MAX};
    for (int token : edges) {
      for (int place = 0; place < 5; place++) {
        Cachefront x = front();
        int[] t = {-1, -1, -1, -1, -1};
        t[place] = token;
        String what = "type " + token + " at " + place;
        if (token == -1 || isToken(token)) {
          CHECK.same(what, x.type(t[0], t[1], t[2], t[3], t[4]), token == -1 ? 3 : 4);
        } else {
          CHECK.wrongArgument(x, what, () -> x.type(t[0], t[1], t[2], t[3], t[4]));
        }
      }
    }
  }

  /** Without any REQUEST, ENTRY or FETCH there is no number 0. */
  private static void emptyFront() {
    CHECK.part("of an empty front");
    Cachefront x = new Cachefront();
    CHECK.outOfBounds(x, "again(0)", () -> x.again(0));
    CHECK.outOfBounds(x, "requestText(0)", () -> x.requestText(0));
    CHECK.outOfBounds(x, "isTold(0)", () -> x.isTold(0));
    CHECK.outOfBounds(x, "ofAnswer(0, 0)", () -> x.ofAnswer(0, 0));
    CHECK.outOfBounds(x, "ofAnswer(0, 14)", () -> x.ofAnswer(0, 14));
    CHECK.outOfBounds(x, "answerBody(0)", () -> x.answerBody(0));
    CHECK.outOfBounds(x, "answerText(0)", () -> x.answerText(0));
    CHECK.outOfBounds(x, "isTrue(0)", () -> x.isTrue(0));
    CHECK.outOfBounds(x, "ofEntry(0, 0)", () -> x.ofEntry(0, 0));
    CHECK.outOfBounds(x, "ofEntry(0, 16)", () -> x.ofEntry(0, 16));
    CHECK.outOfBounds(x, "entryBody(0)", () -> x.entryBody(0));
    CHECK.outOfBounds(x, "ofFetch(0, 0)", () -> x.ofFetch(0, 0));
    CHECK.outOfBounds(x, "ofFetch(0, 11)", () -> x.ofFetch(0, 11));
    CHECK.outOfBounds(x, "fetchText(0)", () -> x.fetchText(0));
  }
}
