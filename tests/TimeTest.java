/** Promises 1 to 11: time, origins and the ring. */
public final class TimeTest {
  private static final Check CHECK = new Check();
  private static final int[] ODD = {Integer.MIN_VALUE, -1000, -9, -2, -1};

  public static void main(String[] args) {
    newObject();
    goBy();
    settle();
    weigh();
    offset();
    delay();
    mood();
    ofOrigin();
    order();
    outOrigins();
    hash();
    ifWeighed();
    CHECK.end();
  }

  private static void newObject() {
    CHECK.part("1 a new object");
    Cachefront x = new Cachefront();
    CHECK.same("draftText", x.draftText(), "GET /0");
    for (int what = 0; what <= 21; what++) {
      CHECK.same("house(" + what + ")", x.house(what), what == 7 ? 300 : 0);
    }
    for (int o = 0; o < 5; o++) {
      int[] due = {o < 3 ? 2 : 0, 0, 1, 0, 0, 0, 0};
      for (int what = 0; what < due.length; what++) {
        CHECK.same("ofOrigin(" + o + ", " + what + ")", x.ofOrigin(o, what), due[what]);
      }
      CHECK.same("its clock", x.ofOrigin(o, 8), 0);
    }
    for (int path = 0; path < 12; path++) {
      for (int what = 0; what <= 11; what++) {
        CHECK.same("ofPath(" + path + ", " + what + ")", x.ofPath(path, what), what <= 8 ? -1 : 0);
      }
      CHECK.same("body", x.body(path, 0, 0), "-");
    }
    CHECK.same("entries", x.entries(), 0);
    CHECK.same("waiting", x.waiting(), "");
    CHECK.same("underWay", x.underWay(), "");
    CHECK.same("typed", x.typed(), "");
    CHECK.same("isSound", x.isSound(), true);
  }

  private static void goBy() {
    CHECK.part("2 goBy");
    Cachefront x = new Cachefront();
    CHECK.same("goBy(1)", x.goBy(1), 1);
    CHECK.same("goBy(60)", x.goBy(60), 61);
    CHECK.same("NOW", x.house(0), 61);
    for (int many : new int[] {Integer.MIN_VALUE, -1, 0, 61, Integer.MAX_VALUE}) {
      CHECK.wrongArgument(x, "goBy(" + many + ")", () -> x.goBy(many));
    }
  }

  private static void settle() {
    CHECK.part("3 settle");
    Cachefront x = new Cachefront();
    CHECK.same("settle without any", x.settle(120), 0);
    x.get(0, 0, 0);
    CHECK.same("settle(1)", x.settle(1), 1);
    CHECK.same("still waits", x.isTold(0), false);
    CHECK.same("settle(120)", x.settle(120), 1);
    CHECK.same("NOW", x.house(0), 2);
    CHECK.same("told", x.isTold(0), true);
    x.warm(0, 0, 0);
    CHECK.same("none waits for what is in the background", x.settle(5), 0);
    for (int most : new int[] {Integer.MIN_VALUE, -1, 0, 121, Integer.MAX_VALUE}) {
      CHECK.wrongArgument(x, "settle(" + most + ")", () -> x.settle(most));
    }
  }

  private static void weigh() {
    CHECK.part("4 weigh");
    Cachefront x = new Cachefront();
    CHECK.same("weigh(0, 4)", x.weigh(0, 4), 2);
    CHECK.same("weigh(0, 0)", x.weigh(0, 0), 4);
    CHECK.same("weigh(4, 1)", x.weigh(4, 1), 0);
    CHECK.same("WEIGHT", x.ofOrigin(4, 0), 1);
    CHECK.same("without 0, with 4", x.order(3, true).length(), 5);
    for (int weight : new int[] {-1, 5, Integer.MIN_VALUE, Integer.MAX_VALUE}) {
      CHECK.wrongArgument(x, "weigh(1, " + weight + ")", () -> x.weigh(1, weight));
    }
    for (int origin : new int[] {-1, 5, Integer.MIN_VALUE, Integer.MAX_VALUE}) {
      CHECK.outOfBounds(x, "weigh(" + origin + ", 9)", () -> x.weigh(origin, 9));
    }
    for (int o = 0; o < 5; o++) {
      x.weigh(o, 0);
    }
    CHECK.same("nobody on the ring", x.order(0, true), "");
    x.get(0, 0, 0);
    CHECK.same("told at once", x.answerText(0), "503 fault");
    CHECK.same("no TRY", x.ofFetch(0, 4), 0);
    CHECK.same("no ORIGIN", x.ofFetch(0, 5), -1);
    CHECK.same("never sent", x.ofFetch(0, 6), -1);
    CHECK.same("over", x.ofFetch(0, 9), 0);
    CHECK.same("ended by", x.ofFetch(0, 10), 503);
  }

  private static void offset() {
    CHECK.part("5 offset");
    Cachefront x = new Cachefront();
    CHECK.same("offset(1, -50)", x.offset(1, -50), 0);
    CHECK.same("offset(1, 50)", x.offset(1, 50), -50);
    CHECK.same("OFFSET", x.ofOrigin(1, 1), 50);
    for (int offset : new int[] {-51, 51, Integer.MIN_VALUE, Integer.MAX_VALUE}) {
      CHECK.wrongArgument(x, "offset(0, " + offset + ")", () -> x.offset(0, offset));
    }
    for (int origin : new int[] {-1, 5}) {
      CHECK.outOfBounds(x, "offset(" + origin + ", 99)", () -> x.offset(origin, 99));
    }
    x.goBy(3);
    CHECK.same("its clock", x.ofOrigin(1, 8), 53);
    datesByOffset();
  }

  /** DATE is by the clock of the ORIGIN as it is when the TRY arrives. */
  private static void datesByOffset() {
    for (int offset : new int[] {-50, -3, 0, 7}) {
      Cachefront x = new Cachefront();
      x.write(0, 3, 1, 0);
      x.policy(0, 5, -1, -1, 0);
      x.goBy(10);
      int first = x.order(0, true).charAt(0) - '0';
      x.delay(first, 2);
      x.get(0, 0, 0);
      x.goBy(1);
      x.offset(first, offset);
      x.goBy(1);
      x.offset(first, 33);
      x.goBy(2);
      CHECK.same("DATE by " + offset, x.ofAnswer(0, 4), 12 + offset);
      CHECK.same("MADE by " + offset, x.ofAnswer(0, 10), 12);
      CHECK.same("AGE by " + offset, x.ofAnswer(0, 2), offset == -50 ? 52 : offset == -3 ? 5 : 4);
      CHECK.same("LAST by " + offset, x.ofAnswer(0, 5), 0);
    }
  }

  private static void delay() {
    CHECK.part("6 delay");
    Cachefront x = new Cachefront();
    CHECK.same("delay(3, 5)", x.delay(3, 5), 1);
    CHECK.same("delay(3, 1)", x.delay(3, 1), 5);
    for (int delay : new int[] {0, 6, -1, Integer.MIN_VALUE, Integer.MAX_VALUE}) {
      CHECK.wrongArgument(x, "delay(0, " + delay + ")", () -> x.delay(0, delay));
    }
    for (int origin : new int[] {-1, 5}) {
      CHECK.outOfBounds(x, "delay(" + origin + ", 0)", () -> x.delay(origin, 0));
    }
    x.get(0, 0, 0);
    for (int o = 0; o < 3; o++) {
      x.delay(o, 5);
    }
    CHECK.same("DELAY", x.ofOrigin(2, 2), 5);
    CHECK.same("sent before", x.settle(60), 2);
    x.get(0, 0, 0);
    CHECK.same("sent after", x.settle(60), 10);
  }

  private static void mood() {
    CHECK.part("7 mood");
    Cachefront x = new Cachefront();
    CHECK.same("mood(4, 2)", x.mood(4, 2), 0);
    CHECK.same("mood(4, 1)", x.mood(4, 1), 2);
    CHECK.same("mood(4, 0)", x.mood(4, 0), 1);
    for (int mood : new int[] {-1, 3, Integer.MIN_VALUE, Integer.MAX_VALUE}) {
      CHECK.wrongArgument(x, "mood(0, " + mood + ")", () -> x.mood(0, mood));
    }
    for (int origin : new int[] {-1, 5}) {
      CHECK.outOfBounds(x, "mood(" + origin + ", 3)", () -> x.mood(origin, 3));
    }
    x.weigh(0, 0);
    x.weigh(1, 0);
    x.delay(2, 2);
    x.get(0, 0, 0);
    x.mood(2, 1);
    x.goBy(2);
    x.mood(2, 0);
    x.goBy(2);
    CHECK.same("FAILING as it arrived", x.answerText(0), "502 fault");
    x.get(0, 0, 0);
    x.goBy(2);
    x.mood(2, 1);
    x.goBy(2);
    CHECK.same("WELL as it arrived", x.answerText(1), "404 fetched");
    CHECK.same("FAILS", x.ofOrigin(2, 4), 0);
    x.mood(2, 2);
    x.get(0, 0, 0);
    CHECK.same("given up", x.settle(60), 12);
    CHECK.same("SILENT", x.answerText(2), "504 fault");
    CHECK.same("MOOD", x.ofOrigin(2, 3), 2);
  }

  private static void ofOrigin() {
    CHECK.part("8 ofOrigin");
    Cachefront x = new Cachefront();
    int paths = 0;
    for (int o = 0; o < 5; o++) {
      paths += x.ofOrigin(o, 7);
    }
    CHECK.same("PATHS of all", paths, 12);
    CHECK.same("PATHS of one that is not on the ring", x.ofOrigin(3, 7), 0);
    for (int o = 0; o < 5; o++) {
      int led = 0;
      for (int path = 0; path < 12; path++) {
        led += x.order(path, true).charAt(0) == '0' + o ? 1 : 0;
      }
      CHECK.same("PATHS of " + o, x.ofOrigin(o, 7), led);
    }
    x.get(0, 0, 0);
    x.get(0, 1, 0);
    CHECK.same("TRIES", x.ofOrigin(2, 6), 2);
    for (int what : new int[] {-1, 9, Integer.MIN_VALUE, Integer.MAX_VALUE}) {
      CHECK.wrongArgument(x, "ofOrigin(0, " + what + ")", () -> x.ofOrigin(0, what));
    }
    for (int origin : new int[] {-1, 5}) {
      CHECK.outOfBounds(x, "ofOrigin(" + origin + ", 9)", () -> x.ofOrigin(origin, 9));
    }
  }

  /** HASH of the document, with numbers that can not run over. */
  private static int hashOf(long x) {
    long a = (x * 25173 + 13849) % 65536;
    return (int) (((a + a / 128) * 9001 + 7) % 65536);
  }

  /** The ring once more: ORIGINS by the least way upward from the KEY. */
  private static String ringOf(int path, int[] weights) {
    StringBuilder text = new StringBuilder();
    boolean[] met = new boolean[65536 * 5];
    int key = hashOf(5000 + 37 * path);
    for (int o = 0; o < 5; o++) {
      for (int k = 0; k < 4 * weights[o]; k++) {
        met[Math.floorMod(hashOf(100 * o + k) - key, 65536) * 5 + o] = true;
      }
    }
    for (int i = 0; i < met.length; i++) {
      String o = "" + i % 5;
      if (met[i] && text.indexOf(o) < 0) {
        text.append(text.length() > 0 ? " " : "").append(o);
      }
    }
    return text.toString();
  }

  private static void order() {
    CHECK.part("9 order");
    int[][] all = {{2, 2, 2, 0, 0}, {4, 4, 4, 4, 4}, {0, 0, 0, 0, 3}, {1, 0, 2, 3, 4}, {0, 0, 0, 0, 0}, {4, 1, 1, 1, 4}};
    for (int[] weights : all) {
      Cachefront x = new Cachefront();
      for (int o = 0; o < 5; o++) {
        x.weigh(o, weights[o]);
      }
      for (int path = 0; path < 12; path++) {
        CHECK.same("order(" + path + ", true)", x.order(path, true), ringOf(path, weights));
        CHECK.same("order(" + path + ", false)", x.order(path, false), ringOf(path, weights));
      }
    }
    Cachefront x = new Cachefront();
    for (int path : new int[] {-1, 12, Integer.MIN_VALUE, Integer.MAX_VALUE}) {
      CHECK.outOfBounds(x, "order(" + path + ", true)", () -> x.order(path, true));
      CHECK.outOfBounds(x, "order(" + path + ", false)", () -> x.order(path, false));
    }
  }

  private static void outOrigins() {
    CHECK.part("9 order of those that are OUT");
    Cachefront x = new Cachefront();
    x.mood(2, 1);
    for (int i = 0; i < 3; i++) {
      CHECK.same("OUT", x.ofOrigin(2, 5), 0);
      CHECK.same("ORDER", x.order(0, false), "2 1 0");
      x.get(0, 0, 0);
      CHECK.same("two TRIES", x.settle(60), 4);
      CHECK.same("the second one told", x.ofAnswer(i, 13), 1);
      CHECK.same("FAILS", x.ofOrigin(2, 4), i + 1);
    }
    CHECK.same("the last FAIL was then", x.house(0), 12);
    CHECK.same("OUT", x.ofOrigin(2, 5), 1);
    CHECK.same("ORDER", x.order(0, false), "1 0 2");
    CHECK.same("RING ORDER", x.order(0, true), "2 1 0");
    x.get(0, 0, 0);
    CHECK.same("not tried", x.settle(60), 2);
    CHECK.same("its TRIES", x.ofOrigin(2, 6), 3);
    x.goBy(25);
    CHECK.same("29 TICKS after the FAIL of TICK 10", x.ofOrigin(2, 5), 1);
    x.goBy(1);
    CHECK.same("30 TICKS after", x.ofOrigin(2, 5), 0);
    CHECK.same("ORDER", x.order(0, false), "2 1 0");
    CHECK.same("FAILS stay", x.ofOrigin(2, 4), 3);
    x.mood(2, 0);
    x.get(0, 0, 0);
    x.settle(60);
    CHECK.same("FAILS in a row", x.ofOrigin(2, 4), 0);
  }

  private static void hash() {
    CHECK.part("10 hash");
    Cachefront x = new Cachefront();
    CHECK.same("hash(0)", x.hash(0), 59988);
    for (int k = 1; k < 300; k++) {
      int number = k < 290 ? k * 37 % 9999 : 9999 - (k - 290);
      CHECK.same("hash(" + number + ")", x.hash(number), hashOf(number));
    }
    for (int number : ODD) {
      CHECK.wrongArgument(x, "hash(" + number + ")", () -> x.hash(number));
    }
    CHECK.wrongArgument(x, "hash(10000)", () -> x.hash(10000));
    CHECK.wrongArgument(x, "hash(MAX)", () -> x.hash(Integer.MAX_VALUE));
  }

  private static void ifWeighed() {
    CHECK.part("11 ifWeighed");
    for (int o = 0; o < 5; o++) {
      Cachefront x = new Cachefront();
      long before = x.digest();
      for (int weight = 0; weight <= 4; weight++) {
        for (int path = 0; path < 12; path++) {
          int[] weights = {2, 2, 2, 0, 0};
          weights[o] = weight;
          int due = ringOf(path, weights).charAt(0) - '0';
          CHECK.same("ifWeighed(" + o + ", " + weight + ", " + path + ")", x.ifWeighed(o, weight, path), due);
        }
      }
      CHECK.same("nothing changed", x.digest(), before);
    }
    Cachefront x = new Cachefront();
    for (int o = 0; o < 3; o++) {
      x.weigh(o, 0);
    }
    CHECK.same("without any", x.ifWeighed(1, 0, 3), -1);
    CHECK.same("alone", x.ifWeighed(4, 1, 3), 4);
    CHECK.outOfBounds(x, "ifWeighed(5, 9, 0)", () -> x.ifWeighed(5, 9, 0));
    CHECK.outOfBounds(x, "ifWeighed(-1, 0, 0)", () -> x.ifWeighed(-1, 0, 0));
    CHECK.outOfBounds(x, "ifWeighed(0, 9, 12)", () -> x.ifWeighed(0, 9, 12));
    CHECK.outOfBounds(x, "ifWeighed(0, 0, -1)", () -> x.ifWeighed(0, 0, -1));
    CHECK.wrongArgument(x, "ifWeighed(0, 5, 11)", () -> x.ifWeighed(0, 5, 11));
    CHECK.wrongArgument(x, "ifWeighed(4, -1, 0)", () -> x.ifWeighed(4, -1, 0));
  }
}
